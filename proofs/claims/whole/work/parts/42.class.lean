theorem inv_s {P : Nat → Bool} {k : Nat} (h : ∀ q, q < k → P q = false) (hk : P k = false) : ∀ q, q < k + 1 → P q = false := fun q hq => by
  by_cases e : q = k
  · rw [e]; exact hk
  · exact h q (by omega)
theorem b_all : ∀ np, np ≤ 6 → ∀ b, b < 2 ^ np → b &&& (63 ^^^ (2 ^ np - 1)) = 0 := by decide +kernel
theorem reP_all {kd wh mn : Nat → Nat} {np b : Nat} (h6 : np ≤ 6) (hb : b < 2 ^ np) (l : Nat) : reP kd wh mn np b (2 ^ np - 1) l = agr kd wh mn np b l := by
  unfold reP agr
  rw [b_all np h6 b hb, Nat.and_two_pow_sub_one_eq_mod, Nat.mod_eq_of_lt (dn_lt kd wh mn np l b), Nat.or_zero]
/-- what a letter would bring if only the readers of r minded it, the others doing o -/
def laP (kd wh mn : Nat → Nat) (np b r o : Nat) : Nat → Bool := fun l => decide ((dn kd wh mn np l b &&& r ||| o) = l)
theorem orl {d r o : Nat} (hd : d < 64) (ho : o < 64) : (d &&& r ||| o) < 64 := Nat.or_lt_two_pow (n := 6) (Nat.lt_of_le_of_lt Nat.and_le_left hd) ho
set_option maxRecDepth 100000 in
theorem l_X2_la {Γ : xΓ} {Ω : xW} {h : xH} {sz : Nat} (X : xX Γ Ω cX2_leastAgreeing 5 RX2 "leastAgreeing" (some .int) 3 105 0 0) {w np day b : Nat} {kd wh mn : Nat → Nat} {fr : Nat → Int32} {e : Nat} {R : Int32} {r o : Nat} (hfo : h (e + 20) = some (.inr (2, [.ref (e + 21)]))) (hto : h w = some (tO w (nI np) (nI day) (nI b) (nI (moM kd np)))) (htf : h (w + 2) = some (.inl (.int, 64, .inl fr))) (h6 : np ≤ 6) (hF : frOK fr kd wh mn np) (hb : b < 2 ^ np) (hR : ∀ d, d < 64 → nI d &&& R = nI (d &&& r)) (ho : o < 64) : ∀ (j0 k : Nat), k + j0 = 2 ^ np → (∀ q, q < k → laP kd wh mn np b r o q = false) → xG Γ Ω 5 (xQ Γ Ω (some (.int (oN (fstB (laP kd wh mn np b r o) (2 ^ np))))) h (sz) 0 0) 3 [(4, .int (nI k)), (0, .ref (e + 20)), (1, .ref w), (2, .int R), (3, .int (nI o))] ([]) h sz 0 0 := by
  intro j0
  induction j0 with
  | zero =>
    intro k hk hinv
    have ek : k = 2 ^ np := by omega
    have h64 := pw_le h6
    refine xr_iload X 0 dX2_leastAgreeing_3 rfl ?_
    refine xr_aload_n X 2 dX2_leastAgreeing_5 rfl rfl ?_
    refine xr_callV X hto rfl kw_666 kw_509 kw_510 cw_X8_letters [] (c_X8_letters hto h6) rfl rfl rfl rfl rfl rfl rfl dX2_leastAgreeing_6 ?_
    refine xr_icmp_ge (tgt := 36) X dX2_leastAgreeing_9 (by decide) (fun _ => ?_) (fun c_9 => absurd (by subst ek; exact i32_le.mpr (Int.le_refl _)) c_9)
    refine xr_ldc (v := (-1000000)) X kw_678 dX2_leastAgreeing_36 ?_
    exact xr_iret X rfl (by rw [fstB_none (fun q hq => hinv q (by omega))]; rfl) rfl rfl rfl rfl dX2_leastAgreeing_38
  | succ j0 ih =>
    intro k hk hinv
    have lk : k < 2 ^ np := by omega
    have h64 := pw_le h6
    have dl := dn_lt kd wh mn np k b
    refine xr_iload X 0 dX2_leastAgreeing_3 rfl ?_
    refine xr_aload_n X 2 dX2_leastAgreeing_5 rfl rfl ?_
    refine xr_callV X hto rfl kw_666 kw_509 kw_510 cw_X8_letters [] (c_X8_letters hto h6) rfl rfl rfl rfl rfl rfl rfl dX2_leastAgreeing_6 ?_
    refine xr_icmp_ge (tgt := 36) X dX2_leastAgreeing_9 (by decide) (fun c_9 => absurd c_9 (by rw [i32_le, nI_toInt (by omega), nI_toInt (by omega)]; omega)) (fun _ => ?_)
    refine xr_aload_n X 2 dX2_leastAgreeing_12 rfl rfl ?_
    refine xr_iload X 0 dX2_leastAgreeing_13 rfl ?_
    refine xr_callV X hto rfl kw_672 kw_624 kw_625 cw_X8_outcome [.int (nI k)] (c_X8_outcome hto htf h6 hF (by omega)) rfl rfl rfl rfl rfl rfl rfl dX2_leastAgreeing_15 ?_
    refine xr_iload_n X 3 dX2_leastAgreeing_18 rfl rfl ?_
    refine xr_iand X dX2_leastAgreeing_19 ?_
    refine xr_iload_n X 4 dX2_leastAgreeing_20 rfl rfl ?_
    refine xr_ior X dX2_leastAgreeing_21 ?_
    refine xr_top (y := (nI (dn kd wh mn np k b &&& r ||| o))) (by rw [hR _ (by omega), nI_or]) ?_
    have ol := orl (d := dn kd wh mn np k b) (r := r) (o := o) (by omega) ho
    refine xr_iload X 0 dX2_leastAgreeing_22 rfl ?_
    refine xr_icmp_ne (tgt := 30) X dX2_leastAgreeing_24 (by decide) (fun c_24 => ?_) (fun c_24 => ?_)
    · have c_24 := mt i32_eq.mpr c_24
      (try simp (disch := omega) only [nI_toInt, i32_add, i32_sub, i32_mul, i64_addl, i32_l] at c_24)
      refine xr_iinc (v := nI (k + 1)) (lv' := [(4, .int (nI (k + 1))), (0, .ref (e + 20)), (1, .ref w), (2, .int R), (3, .int (nI o))]) X 0 dX2_leastAgreeing_30 rfl (nI_1 _) rfl rfl ?_
      refine xr_goto (tgt := 3) X dX2_leastAgreeing_33 (by decide) ?_
      exact ih (k + 1) (by omega) (inv_s hinv (decide_eq_false (by omega)))
    · have c_24 := i32_eq.mp c_24
      (try simp (disch := omega) only [nI_toInt, i32_add, i32_sub, i32_mul, i64_addl, i32_l] at c_24)
      refine xr_iload X 0 dX2_leastAgreeing_27 rfl ?_
      exact xr_iret X rfl (by rw [fstB_some (show laP kd wh mn np b r o k = true from decide_eq_true (by omega)) hinv lk]; rfl) rfl rfl rfl rfl dX2_leastAgreeing_29
set_option maxRecDepth 100000 in
theorem c_X2_leastAgreeing {l : Launch} {Ω : xW} {h : xH} {sz : Nat} {w np day b : Nat} {kd wh mn : Nat → Nat} {fr : Nat → Int32} {e : Nat} {R : Int32} {r o : Nat} (hfo : h (e + 20) = some (.inr (2, [.ref (e + 21)]))) (hto : h w = some (tO w (nI np) (nI day) (nI b) (nI (moM kd np)))) (htf : h (w + 2) = some (.inl (.int, 64, .inl fr))) (h6 : np ≤ 6) (hF : frOK fr kd wh mn np) (hb : b < 2 ^ np) (hR : ∀ d, d < 64 → nI d &&& R = nI (d &&& r)) (ho : o < 64) : xC l Ω yX2_leastAgreeing cX2_leastAgreeing 5 (some .int) 3 0 0 [.ref (e + 20), .ref w, .int R, .int (nI o)] h sz (some (.int (oN (fstB (laP kd wh mn np b r o) (2 ^ np))))) h (sz) := by
  refine xC_of (lv := [(0, .ref (e + 20)), (1, .ref w), (2, .int R), (3, .int (nI o))]) pn_X2 rfl rfl (fun Γ X hΓ hbs => ?_)
  have X : xX Γ Ω cX2_leastAgreeing 5 RX2 "leastAgreeing" (some .int) 3 105 0 0 := X
  subst hΓ
  refine xr_iconst (v := 0) X dX2_leastAgreeing_0 (by decide) ?_
  refine xr_istore (lv' := [(4, .int 0), (0, .ref (e + 20)), (1, .ref w), (2, .int R), (3, .int (nI o))]) X dX2_leastAgreeing_1 rfl rfl ?_
  exact l_X2_la X hfo hto htf h6 hF hb hR ho (2 ^ np) 0 (by omega) (fun q hq => by omega)
set_option maxRecDepth 100000 in
theorem c_X2_someAgrees {l : Launch} {Ω : xW} {h : xH} {sz : Nat} {w np day b : Nat} {kd wh mn : Nat → Nat} {fr : Nat → Int32} {e : Nat} {i o : Nat} (hfo : h (e + 20) = some (.inr (2, [.ref (e + 21)]))) (hto : h w = some (tO w (nI np) (nI day) (nI b) (nI (moM kd np)))) (htf : h (w + 2) = some (.inl (.int, 64, .inl fr))) (h6 : np ≤ 6) (hF : frOK fr kd wh mn np) (hb : b < 2 ^ np) (hi : i < 6) (ho : o < 64) : xC l Ω yX2_someAgrees cX2_someAgrees 4 (some .boolean) 4 0 0 [.ref (e + 20), .ref w, .int (nI (2 ^ i)), .int (nI o)] h sz (some (.int (xb ((fstB (laP kd wh mn np b (63 ^^^ 2 ^ i) o) (2 ^ np)).isSome)))) h (sz) := by
  refine xC_of (lv := [(0, .ref (e + 20)), (1, .ref w), (2, .int (nI (2 ^ i))), (3, .int (nI o))]) pn_X2 rfl rfl (fun Γ X hΓ hbs => ?_)
  have X : xX Γ Ω cX2_someAgrees 4 RX2 "someAgrees" (some .boolean) 4 140 0 0 := X
  subst hΓ
  have hi64 : 2 ^ i < 64 := Nat.pow_lt_pow_right (m := i) (n := 6) (by omega) (by omega)
  have h64 := pw_le h6
  refine xr_aload_n X 0 dX2_someAgrees_0 rfl rfl ?_
  refine xr_aload_n X 1 dX2_someAgrees_1 rfl rfl ?_
  refine xr_iload_n X 2 dX2_someAgrees_2 rfl rfl ?_
  refine xr_iconst (v := (-1)) X dX2_someAgrees_3 (by decide) ?_
  refine xr_ixor X dX2_someAgrees_4 ?_
  refine xr_iload_n X 3 dX2_someAgrees_5 rfl rfl ?_
  refine xr_callV X hfo rfl kw_701 kw_703 kw_17 cw_X2_leastAgreeing [.ref w, .int ((nI (2 ^ i)) ^^^ (-1)), .int (nI o)] (c_X2_leastAgreeing (r := 63 ^^^ 2 ^ i) hfo hto htf h6 hF hb (fun d hd => an_n d hd (2 ^ i) hi64) ho) rfl rfl rfl rfl rfl rfl rfl dX2_someAgrees_6 ?_
  refine xr_ldc (v := (-1000000)) X kw_678 dX2_someAgrees_9 ?_
  refine xr_icmp_eq (tgt := 18) X dX2_someAgrees_11 (by decide) (fun c_11 => ?_) (fun c_11 => ?_)
  · refine xr_iconst (v := 0) X dX2_someAgrees_18 (by decide) ?_
    exact xr_zret X rfl rfl (by rw [oN_none (fun q hq => by have := (fstB_lt hq).1; omega) c_11]; rfl) rfl rfl rfl rfl dX2_someAgrees_19
  · refine xr_iconst (v := 1) X dX2_someAgrees_14 (by decide) ?_
    refine xr_goto (tgt := 19) X dX2_someAgrees_15 (by decide) ?_
    exact xr_zret X rfl rfl (by obtain ⟨q9, e9⟩ := oN_some c_11; rw [e9]; rfl) rfl rfl rfl rfl dX2_someAgrees_19
set_option maxRecDepth 100000 in
theorem l_X2_rb {Γ : xΓ} {Ω : xW} {h : xH} {sz : Nat} (X : xX Γ Ω cX2_howManyReadBy 6 RX2 "howManyReadBy" (some .int) 3 105 0 0) {w np day b : Nat} {kd wh mn : Nat → Nat} {fr : Nat → Int32} {e : Nat} {s : Nat} (hfo : h (e + 20) = some (.inr (2, [.ref (e + 21)]))) (hto : h w = some (tO w (nI np) (nI day) (nI b) (nI (moM kd np)))) (htf : h (w + 2) = some (.inl (.int, 64, .inl fr))) (h6 : np ≤ 6) (hF : frOK fr kd wh mn np) (hb : b < 2 ^ np) (hs : s < 64) : ∀ (j0 k : Nat), k + j0 = 2 ^ np → xG Γ Ω 6 (xQ Γ Ω (some (.int (nI (cntB (reP kd wh mn np b s) (2 ^ np))))) h (sz) 0 0) 15 [(5, .int (nI k)), (4, .int (nI (cntB (reP kd wh mn np b s) k))), (3, .int (nI (b &&& (63 ^^^ s)))), (0, .ref (e + 20)), (1, .ref w), (2, .int (nI s))] ([]) h sz 0 0 := by
  intro j0
  induction j0 with
  | zero =>
    intro k hk
    have ek : k = 2 ^ np := by omega
    have h64 := pw_le h6
    refine xr_iload X 0 dX2_howManyReadBy_15 rfl ?_
    refine xr_aload_n X 4 dX2_howManyReadBy_17 rfl rfl ?_
    refine xr_callV X hto rfl kw_666 kw_509 kw_510 cw_X8_letters [] (c_X8_letters hto h6) rfl rfl rfl rfl rfl rfl rfl dX2_howManyReadBy_18 ?_
    refine xr_icmp_ge (tgt := 48) X dX2_howManyReadBy_21 (by decide) (fun _ => ?_) (fun c_21 => absurd (by subst ek; exact i32_le.mpr (Int.le_refl _)) c_21)
    refine xr_iload X 1 dX2_howManyReadBy_48 rfl ?_
    exact xr_iret X rfl (by rw [ek]) rfl rfl rfl rfl dX2_howManyReadBy_50
  | succ j0 ih =>
    intro k hk
    have lk : k < 2 ^ np := by omega
    have h64 := pw_le h6
    have dl := dn_lt kd wh mn np k b
    refine xr_iload X 0 dX2_howManyReadBy_15 rfl ?_
    refine xr_aload_n X 4 dX2_howManyReadBy_17 rfl rfl ?_
    refine xr_callV X hto rfl kw_666 kw_509 kw_510 cw_X8_letters [] (c_X8_letters hto h6) rfl rfl rfl rfl rfl rfl rfl dX2_howManyReadBy_18 ?_
    refine xr_icmp_ge (tgt := 48) X dX2_howManyReadBy_21 (by decide) (fun c_21 => absurd c_21 (by rw [i32_le, nI_toInt (by omega), nI_toInt (by omega)]; omega)) (fun _ => ?_)
    refine xr_aload_n X 4 dX2_howManyReadBy_24 rfl rfl ?_
    refine xr_iload X 0 dX2_howManyReadBy_25 rfl ?_
    refine xr_callV X hto rfl kw_672 kw_624 kw_625 cw_X8_outcome [.int (nI k)] (c_X8_outcome hto htf h6 hF (by omega)) rfl rfl rfl rfl rfl rfl rfl dX2_howManyReadBy_27 ?_
    refine xr_iload_n X 5 dX2_howManyReadBy_30 rfl rfl ?_
    refine xr_iand X dX2_howManyReadBy_31 ?_
    refine xr_iload_n X 2 dX2_howManyReadBy_32 rfl rfl ?_
    refine xr_ior X dX2_howManyReadBy_33 ?_
    refine xr_top (y := (nI (dn kd wh mn np k b &&& s ||| (b &&& (63 ^^^ s))))) (by rw [nI_and, nI_or]) ?_
    have ol := rb_lt (dn kd wh mn np k b) (by omega) b (by omega) s
    refine xr_iload X 0 dX2_howManyReadBy_34 rfl ?_
    refine xr_icmp_ne (tgt := 42) X dX2_howManyReadBy_36 (by decide) (fun c_36 => ?_) (fun c_36 => ?_)
    · have c_36 := mt i32_eq.mpr c_36
      (try simp (disch := omega) only [nI_toInt, i32_add, i32_sub, i32_mul, i64_addl, i32_l] at c_36)
      refine xr_iinc (v := nI (k + 1)) (lv' := [(5, .int (nI (k + 1))), (4, .int (nI (cntB (reP kd wh mn np b s) k))), (3, .int (nI (b &&& (63 ^^^ s)))), (0, .ref (e + 20)), (1, .ref w), (2, .int (nI s))]) X 0 dX2_howManyReadBy_42 rfl (nI_1 _) rfl rfl ?_
      refine xr_goto (tgt := 15) X dX2_howManyReadBy_45 (by decide) ?_
      refine xr_lve (lv' := [(5, .int (nI (k + 1))), (4, .int (nI (cntB (reP kd wh mn np b s) (k + 1)))), (3, .int (nI (b &&& (63 ^^^ s)))), (0, .ref (e + 20)), (1, .ref w), (2, .int (nI s))]) (by rw [cntB, show reP kd wh mn np b s k = false from decide_eq_false (by omega)]; rfl) ?_
      exact ih (k + 1) (by omega)
    · have c_36 := i32_eq.mp c_36
      (try simp (disch := omega) only [nI_toInt, i32_add, i32_sub, i32_mul, i64_addl, i32_l] at c_36)
      refine xr_iinc (v := nI ((cntB (reP kd wh mn np b s) k) + 1)) (lv' := [(4, .int (nI ((cntB (reP kd wh mn np b s) k) + 1))), (5, .int (nI k)), (3, .int (nI (b &&& (63 ^^^ s)))), (0, .ref (e + 20)), (1, .ref w), (2, .int (nI s))]) X 1 dX2_howManyReadBy_39 rfl (nI_1 _) rfl rfl ?_
      refine xr_iinc (v := nI (k + 1)) (lv' := [(5, .int (nI (k + 1))), (4, .int (nI ((cntB (reP kd wh mn np b s) k) + 1))), (3, .int (nI (b &&& (63 ^^^ s)))), (0, .ref (e + 20)), (1, .ref w), (2, .int (nI s))]) X 1 dX2_howManyReadBy_42 rfl (nI_1 _) rfl rfl ?_
      refine xr_goto (tgt := 15) X dX2_howManyReadBy_45 (by decide) ?_
      refine xr_lve (lv' := [(5, .int (nI (k + 1))), (4, .int (nI (cntB (reP kd wh mn np b s) (k + 1)))), (3, .int (nI (b &&& (63 ^^^ s)))), (0, .ref (e + 20)), (1, .ref w), (2, .int (nI s))]) (by rw [cntB, show reP kd wh mn np b s k = true from decide_eq_true (by omega)]; rfl) ?_
      exact ih (k + 1) (by omega)
set_option maxRecDepth 100000 in
theorem c_X2_howManyReadBy {l : Launch} {Ω : xW} {h : xH} {sz : Nat} {w np day b : Nat} {kd wh mn : Nat → Nat} {fr : Nat → Int32} {e : Nat} {s : Nat} (hfo : h (e + 20) = some (.inr (2, [.ref (e + 21)]))) (hto : h w = some (tO w (nI np) (nI day) (nI b) (nI (moM kd np)))) (htf : h (w + 2) = some (.inl (.int, 64, .inl fr))) (h6 : np ≤ 6) (hF : frOK fr kd wh mn np) (hb : b < 2 ^ np) (hs : s < 64) : xC l Ω yX2_howManyReadBy cX2_howManyReadBy 6 (some .int) 3 0 0 [.ref (e + 20), .ref w, .int (nI s)] h sz (some (.int (nI (cntB (reP kd wh mn np b s) (2 ^ np))))) h (sz) := by
  refine xC_of (lv := [(0, .ref (e + 20)), (1, .ref w), (2, .int (nI s))]) pn_X2 rfl rfl (fun Γ X hΓ hbs => ?_)
  have X : xX Γ Ω cX2_howManyReadBy 6 RX2 "howManyReadBy" (some .int) 3 105 0 0 := X
  subst hΓ
  have h64 := pw_le h6
  refine xr_aload_n X 1 dX2_howManyReadBy_0 rfl rfl ?_
  refine xr_callV X hto rfl kw_671 kw_595 kw_596 cw_X8_before [] (c_X8_before hto) rfl rfl rfl rfl rfl rfl rfl dX2_howManyReadBy_1 ?_
  refine xr_iload_n X 2 dX2_howManyReadBy_4 rfl rfl ?_
  refine xr_iconst (v := (-1)) X dX2_howManyReadBy_5 (by decide) ?_
  refine xr_ixor X dX2_howManyReadBy_6 ?_
  refine xr_iand X dX2_howManyReadBy_7 ?_
  refine xr_top (y := (nI (b &&& (63 ^^^ s)))) (an_n b (by omega) s hs) ?_
  refine xr_istore_n (lv' := [(3, .int (nI (b &&& (63 ^^^ s)))), (0, .ref (e + 20)), (1, .ref w), (2, .int (nI s))]) X dX2_howManyReadBy_8 rfl rfl rfl ?_
  refine xr_iconst (v := 0) X dX2_howManyReadBy_9 (by decide) ?_
  refine xr_istore (lv' := [(4, .int 0), (3, .int (nI (b &&& (63 ^^^ s)))), (0, .ref (e + 20)), (1, .ref w), (2, .int (nI s))]) X dX2_howManyReadBy_10 rfl rfl ?_
  refine xr_iconst (v := 0) X dX2_howManyReadBy_12 (by decide) ?_
  refine xr_istore (lv' := [(5, .int 0), (4, .int 0), (3, .int (nI (b &&& (63 ^^^ s)))), (0, .ref (e + 20)), (1, .ref w), (2, .int (nI s))]) X dX2_howManyReadBy_13 rfl rfl ?_
  refine xr_locs (lv' := [(5, .int 0), (4, .int 0), (3, .int (nI (b &&& (63 ^^^ s)))), (0, .ref (e + 20)), (1, .ref w), (2, .int (nI s))]) [0, 1, 2, 3, 4, 5] rfl ?_
  exact l_X2_rb X hfo hto htf h6 hF hb hs (2 ^ np) 0 (by omega)
set_option maxRecDepth 100000 in
theorem c_X2_leastReadBy {l : Launch} {Ω : xW} {h : xH} {sz : Nat} {w np day b : Nat} {kd wh mn : Nat → Nat} {fr : Nat → Int32} {e : Nat} {s : Nat} (hfo : h (e + 20) = some (.inr (2, [.ref (e + 21)]))) (hto : h w = some (tO w (nI np) (nI day) (nI b) (nI (moM kd np)))) (htf : h (w + 2) = some (.inl (.int, 64, .inl fr))) (h6 : np ≤ 6) (hF : frOK fr kd wh mn np) (hb : b < 2 ^ np) (hs : s < 64) : xC l Ω yX2_leastReadBy cX2_leastReadBy 3 (some .int) 4 0 0 [.ref (e + 20), .ref w, .int (nI s)] h sz (some (.int (oN (fstB (reP kd wh mn np b s) (2 ^ np))))) h (sz) := by
  refine xC_of (lv := [(0, .ref (e + 20)), (1, .ref w), (2, .int (nI s))]) pn_X2 rfl rfl (fun Γ X hΓ hbs => ?_)
  have X : xX Γ Ω cX2_leastReadBy 3 RX2 "leastReadBy" (some .int) 4 140 0 0 := X
  subst hΓ
  have h64 := pw_le h6
  refine xr_aload_n X 0 dX2_leastReadBy_0 rfl rfl ?_
  refine xr_aload_n X 1 dX2_leastReadBy_1 rfl rfl ?_
  refine xr_iload_n X 2 dX2_leastReadBy_2 rfl rfl ?_
  refine xr_aload_n X 1 dX2_leastReadBy_3 rfl rfl ?_
  refine xr_callV X hto rfl kw_671 kw_595 kw_596 cw_X8_before [] (c_X8_before hto) rfl rfl rfl rfl rfl rfl rfl dX2_leastReadBy_4 ?_
  refine xr_iload_n X 2 dX2_leastReadBy_7 rfl rfl ?_
  refine xr_iconst (v := (-1)) X dX2_leastReadBy_8 (by decide) ?_
  refine xr_ixor X dX2_leastReadBy_9 ?_
  refine xr_iand X dX2_leastReadBy_10 ?_
  refine xr_top (y := (nI (b &&& (63 ^^^ s)))) (an_n b (by omega) s hs) ?_
  refine xr_callV X hfo rfl kw_701 kw_703 kw_17 cw_X2_leastAgreeing [.ref w, .int (nI s), .int (nI (b &&& (63 ^^^ s)))] (c_X2_leastAgreeing (r := s) hfo hto htf h6 hF hb (fun d hd => nI_and d s) (Nat.lt_of_le_of_lt Nat.and_le_left (by omega))) rfl rfl rfl rfl rfl rfl rfl dX2_leastReadBy_11 ?_
  exact xr_iret X rfl rfl rfl rfl rfl rfl dX2_leastReadBy_14
set_option maxRecDepth 100000 in
theorem c_X2_everybody {l : Launch} {Ω : xW} {h : xH} {sz : Nat} {e : Nat} {w np : Nat} {d9 b9 m9 : Int32} (hto : h w = some (tO w (nI np) d9 b9 m9)) (h6 : np ≤ 6) : xC l Ω yX2_everybody cX2_everybody 2 (some .int) 1 0 0 [.ref (e + 20), .ref w] h sz (some (.int (nI (2 ^ np - 1)))) h (sz) := by
  refine xC_of (lv := [(0, .ref (e + 20)), (1, .ref w)]) pn_X2 rfl rfl (fun Γ X hΓ hbs => ?_)
  have X : xX Γ Ω cX2_everybody 2 RX2 "everybody" (some .int) 1 35 0 0 := X
  subst hΓ
  refine xr_aload_n X 1 dX2_everybody_0 rfl rfl ?_
  refine xr_callV X hto rfl kw_666 kw_509 kw_510 cw_X8_letters [] (c_X8_letters hto h6) rfl rfl rfl rfl rfl rfl rfl dX2_everybody_1 ?_
  refine xr_iconst (v := 1) X dX2_everybody_4 (by decide) ?_
  refine xr_isub X dX2_everybody_5 ?_
  exact xr_iret X rfl (xv (pk_sub (b := 1) (Nat.two_pow_pos np)).symm) rfl rfl rfl rfl dX2_everybody_6
set_option maxRecDepth 100000 in
theorem c_X2_howManyAgree {l : Launch} {Ω : xW} {h : xH} {sz : Nat} {w np day b : Nat} {kd wh mn : Nat → Nat} {fr : Nat → Int32} {e : Nat} (hfo : h (e + 20) = some (.inr (2, [.ref (e + 21)]))) (hto : h w = some (tO w (nI np) (nI day) (nI b) (nI (moM kd np)))) (htf : h (w + 2) = some (.inl (.int, 64, .inl fr))) (h6 : np ≤ 6) (hF : frOK fr kd wh mn np) (hb : b < 2 ^ np) : xC l Ω yX2_howManyAgree cX2_howManyAgree 2 (some .int) 4 0 0 [.ref (e + 20), .ref w] h sz (some (.int (nI (cntB (agr kd wh mn np b) (2 ^ np))))) h (sz) := by
  refine xC_of (lv := [(0, .ref (e + 20)), (1, .ref w)]) pn_X2 rfl rfl (fun Γ X hΓ hbs => ?_)
  have X : xX Γ Ω cX2_howManyAgree 2 RX2 "howManyAgree" (some .int) 4 140 0 0 := X
  subst hΓ
  have h64 := pw_le h6
  refine xr_aload_n X 0 dX2_howManyAgree_0 rfl rfl ?_
  refine xr_aload_n X 1 dX2_howManyAgree_1 rfl rfl ?_
  refine xr_aload_n X 0 dX2_howManyAgree_2 rfl rfl ?_
  refine xr_aload_n X 1 dX2_howManyAgree_3 rfl rfl ?_
  refine xr_callV X hfo rfl kw_662 kw_664 kw_15 cw_X2_everybody [.ref w] (c_X2_everybody hto h6) rfl rfl rfl rfl rfl rfl rfl dX2_howManyAgree_4 ?_
  refine xr_callV X hfo rfl kw_667 kw_668 kw_669 cw_X2_howManyReadBy [.ref w, .int (nI (2 ^ np - 1))] (c_X2_howManyReadBy (s := 2 ^ np - 1) hfo hto htf h6 hF hb (by omega)) rfl rfl rfl rfl rfl rfl rfl dX2_howManyAgree_7 ?_
  exact xr_iret X rfl (xv (by rw [cntB_congr (fun q _ => (reP_all h6 hb q).symm)])) rfl rfl rfl rfl dX2_howManyAgree_10
set_option maxRecDepth 100000 in
theorem l_X2_al {Γ : xΓ} {Ω : xW} {h : xH} {sz : Nat} (X : xX Γ Ω cX2_agreeingLetter 5 RX2 "agreeingLetter" (some .int) 4 140 0 0) {w np day b : Nat} {kd wh mn : Nat → Nat} {fr : Nat → Int32} {e : Nat} {i : Int32} (hfo : h (e + 20) = some (.inr (2, [.ref (e + 21)]))) (hto : h w = some (tO w (nI np) (nI day) (nI b) (nI (moM kd np)))) (htf : h (w + 2) = some (.inl (.int, 64, .inl fr))) (h6 : np ≤ 6) (hF : frOK fr kd wh mn np) (hb : b < 2 ^ np) (hi : 0 ≤ i.toInt) : ∀ (j0 k : Nat), k + j0 = 2 ^ np → (∀ q, q < k → ithP (agr kd wh mn np b) i.toInt q = false) → xG Γ Ω 5 (xQ Γ Ω (some (.int (oN (fstB (ithP (agr kd wh mn np b) i.toInt) (2 ^ np))))) h (sz) 0 0) 5 [(4, .int (nI k)), (3, .int (nI (cntB (agr kd wh mn np b) k))), (0, .ref (e + 20)), (1, .ref w), (2, .int i)] ([]) h sz 0 0 := by
  intro j0
  induction j0 with
  | zero =>
    intro k hk hinv
    have ek : k = 2 ^ np := by omega
    have h64 := pw_le h6
    refine xr_iload X 0 dX2_agreeingLetter_5 rfl ?_
    refine xr_aload_n X 3 dX2_agreeingLetter_7 rfl rfl ?_
    refine xr_callV X hto rfl kw_666 kw_509 kw_510 cw_X8_letters [] (c_X8_letters hto h6) rfl rfl rfl rfl rfl rfl rfl dX2_agreeingLetter_8 ?_
    refine xr_icmp_ge (tgt := 40) X dX2_agreeingLetter_11 (by decide) (fun _ => ?_) (fun c_11 => absurd (by subst ek; exact i32_le.mpr (Int.le_refl _)) c_11)
    refine xr_ldc (v := (-1000000)) X kw_678 dX2_agreeingLetter_40 ?_
    exact xr_iret X rfl (by rw [fstB_none (fun q hq => hinv q (by omega))]; rfl) rfl rfl rfl rfl dX2_agreeingLetter_42
  | succ j0 ih =>
    intro k hk hinv
    have lk : k < 2 ^ np := by omega
    have h64 := pw_le h6
    have dl := dn_lt kd wh mn np k b
    have cl := cntB_le (agr kd wh mn np b) k
    refine xr_iload X 0 dX2_agreeingLetter_5 rfl ?_
    refine xr_aload_n X 3 dX2_agreeingLetter_7 rfl rfl ?_
    refine xr_callV X hto rfl kw_666 kw_509 kw_510 cw_X8_letters [] (c_X8_letters hto h6) rfl rfl rfl rfl rfl rfl rfl dX2_agreeingLetter_8 ?_
    refine xr_icmp_ge (tgt := 40) X dX2_agreeingLetter_11 (by decide) (fun c_11 => absurd c_11 (by rw [i32_le, nI_toInt (by omega), nI_toInt (by omega)]; omega)) (fun _ => ?_)
    refine xr_aload_n X 3 dX2_agreeingLetter_14 rfl rfl ?_
    refine xr_iload X 0 dX2_agreeingLetter_15 rfl ?_
    refine xr_callV X hto rfl kw_677 kw_569 kw_570 cw_X8_agrees [.int (nI k)] (c_X8_agrees hto htf h6 hF (by omega)) rfl rfl rfl rfl rfl rfl rfl dX2_agreeingLetter_17 ?_
    refine xr_if_eq (tgt := 34) X dX2_agreeingLetter_20 (by decide) (fun c_20 => ?_) (fun c_20 => ?_)
    · have c_20 := xb_0.mp c_20
      refine xr_iinc (v := nI (k + 1)) (lv' := [(4, .int (nI (k + 1))), (3, .int (nI (cntB (agr kd wh mn np b) k))), (0, .ref (e + 20)), (1, .ref w), (2, .int i)]) X 0 dX2_agreeingLetter_34 rfl (nI_1 _) rfl rfl ?_
      refine xr_goto (tgt := 5) X dX2_agreeingLetter_37 (by decide) ?_
      refine xr_lve (lv' := [(4, .int (nI (k + 1))), (3, .int (nI (cntB (agr kd wh mn np b) (k + 1)))), (0, .ref (e + 20)), (1, .ref w), (2, .int i)]) (by rw [cntB, c_20]; rfl) ?_
      exact ih (k + 1) (by omega) (inv_s hinv (show ithP (agr kd wh mn np b) i.toInt k = false by rw [ithP, c_20]; rfl))
    · have c_20 := xb_1.mp c_20
      refine xr_iload_n X 1 dX2_agreeingLetter_23 rfl rfl ?_
      refine xr_iload_n X 4 dX2_agreeingLetter_24 rfl rfl ?_
      refine xr_icmp_ne (tgt := 31) X dX2_agreeingLetter_25 (by decide) (fun c_25 => ?_) (fun c_25 => ?_)
      · have c_25 := mt i32_eq.mpr c_25
        (try simp (disch := omega) only [nI_toInt, i32_add, i32_sub, i32_mul, i64_addl, i32_l] at c_25)
        refine xr_iinc (v := nI ((cntB (agr kd wh mn np b) k) + 1)) (lv' := [(3, .int (nI ((cntB (agr kd wh mn np b) k) + 1))), (4, .int (nI k)), (0, .ref (e + 20)), (1, .ref w), (2, .int i)]) X 1 dX2_agreeingLetter_31 rfl (nI_1 _) rfl rfl ?_
        refine xr_iinc (v := nI (k + 1)) (lv' := [(4, .int (nI (k + 1))), (3, .int (nI ((cntB (agr kd wh mn np b) k) + 1))), (0, .ref (e + 20)), (1, .ref w), (2, .int i)]) X 1 dX2_agreeingLetter_34 rfl (nI_1 _) rfl rfl ?_
        refine xr_goto (tgt := 5) X dX2_agreeingLetter_37 (by decide) ?_
        refine xr_lve (lv' := [(4, .int (nI (k + 1))), (3, .int (nI (cntB (agr kd wh mn np b) (k + 1)))), (0, .ref (e + 20)), (1, .ref w), (2, .int i)]) (by rw [cntB, c_20]; rfl) ?_
        exact ih (k + 1) (by omega) (inv_s hinv (show ithP (agr kd wh mn np b) i.toInt k = false by rw [ithP, decide_eq_false (by omega), Bool.and_false]))
      · have c_25 := i32_eq.mp c_25
        (try simp (disch := omega) only [nI_toInt, i32_add, i32_sub, i32_mul, i64_addl, i32_l] at c_25)
        refine xr_iload X 0 dX2_agreeingLetter_28 rfl ?_
        exact xr_iret X rfl (by rw [fstB_some (show ithP (agr kd wh mn np b) i.toInt k = true by rw [ithP, c_20, decide_eq_true (by omega)]; rfl) hinv lk]; rfl) rfl rfl rfl rfl dX2_agreeingLetter_30
set_option maxRecDepth 100000 in
theorem c_X2_agreeingLetter {l : Launch} {Ω : xW} {h : xH} {sz : Nat} {w np day b : Nat} {kd wh mn : Nat → Nat} {fr : Nat → Int32} {e : Nat} {i : Int32} (hfo : h (e + 20) = some (.inr (2, [.ref (e + 21)]))) (hto : h w = some (tO w (nI np) (nI day) (nI b) (nI (moM kd np)))) (htf : h (w + 2) = some (.inl (.int, 64, .inl fr))) (h6 : np ≤ 6) (hF : frOK fr kd wh mn np) (hb : b < 2 ^ np) (hi : 0 ≤ i.toInt) : xC l Ω yX2_agreeingLetter cX2_agreeingLetter 5 (some .int) 4 0 0 [.ref (e + 20), .ref w, .int i] h sz (some (.int (oN (fstB (ithP (agr kd wh mn np b) i.toInt) (2 ^ np))))) h (sz) := by
  refine xC_of (lv := [(0, .ref (e + 20)), (1, .ref w), (2, .int i)]) pn_X2 rfl rfl (fun Γ X hΓ hbs => ?_)
  have X : xX Γ Ω cX2_agreeingLetter 5 RX2 "agreeingLetter" (some .int) 4 140 0 0 := X
  subst hΓ
  refine xr_iconst (v := 0) X dX2_agreeingLetter_0 (by decide) ?_
  refine xr_istore_n (lv' := [(3, .int 0), (0, .ref (e + 20)), (1, .ref w), (2, .int i)]) X dX2_agreeingLetter_1 rfl rfl rfl ?_
  refine xr_iconst (v := 0) X dX2_agreeingLetter_2 (by decide) ?_
  refine xr_istore (lv' := [(4, .int 0), (3, .int 0), (0, .ref (e + 20)), (1, .ref w), (2, .int i)]) X dX2_agreeingLetter_3 rfl rfl ?_
  refine xr_locs (lv' := [(4, .int 0), (3, .int 0), (0, .ref (e + 20)), (1, .ref w), (2, .int i)]) [0, 1, 2, 3, 4] rfl ?_
  exact l_X2_al X hfo hto htf h6 hF hb hi (2 ^ np) 0 (by omega) (fun q hq => by omega)
set_option maxRecDepth 100000 in
theorem l_X2_hb {Γ : xΓ} {Ω : xW} {h : xH} {sz : Nat} (X : xX Γ Ω cX2_howManyBring 5 RX2 "howManyBring" (some .int) 3 105 0 0) {w np day b : Nat} {kd wh mn : Nat → Nat} {fr : Nat → Int32} {e : Nat} {s : Nat} (hfo : h (e + 20) = some (.inr (2, [.ref (e + 21)]))) (hto : h w = some (tO w (nI np) (nI day) (nI b) (nI (moM kd np)))) (htf : h (w + 2) = some (.inl (.int, 64, .inl fr))) (h6 : np ≤ 6) (hF : frOK fr kd wh mn np) (hb : b < 2 ^ np) (hs : s < 2 ^ np) : ∀ (j0 k : Nat), k + j0 = 2 ^ np → xG Γ Ω 5 (xQ Γ Ω (some (.int (nI (cntB (loP kd wh mn np b s) (2 ^ np))))) h (sz) 0 0) 5 [(4, .int (nI k)), (3, .int (nI (cntB (loP kd wh mn np b s) k))), (0, .ref (e + 20)), (1, .ref w), (2, .int (nI s))] ([]) h sz 0 0 := by
  intro j0
  induction j0 with
  | zero =>
    intro k hk
    have ek : k = 2 ^ np := by omega
    have h64 := pw_le h6
    refine xr_iload X 0 dX2_howManyBring_5 rfl ?_
    refine xr_aload_n X 3 dX2_howManyBring_7 rfl rfl ?_
    refine xr_callV X hto rfl kw_666 kw_509 kw_510 cw_X8_letters [] (c_X8_letters hto h6) rfl rfl rfl rfl rfl rfl rfl dX2_howManyBring_8 ?_
    refine xr_icmp_ge (tgt := 33) X dX2_howManyBring_11 (by decide) (fun _ => ?_) (fun c_11 => absurd (by subst ek; exact i32_le.mpr (Int.le_refl _)) c_11)
    refine xr_iload_n X 1 dX2_howManyBring_33 rfl rfl ?_
    exact xr_iret X rfl (by rw [ek]) rfl rfl rfl rfl dX2_howManyBring_34
  | succ j0 ih =>
    intro k hk
    have lk : k < 2 ^ np := by omega
    have h64 := pw_le h6
    have dl := dn_lt kd wh mn np k b
    refine xr_iload X 0 dX2_howManyBring_5 rfl ?_
    refine xr_aload_n X 3 dX2_howManyBring_7 rfl rfl ?_
    refine xr_callV X hto rfl kw_666 kw_509 kw_510 cw_X8_letters [] (c_X8_letters hto h6) rfl rfl rfl rfl rfl rfl rfl dX2_howManyBring_8 ?_
    refine xr_icmp_ge (tgt := 33) X dX2_howManyBring_11 (by decide) (fun c_11 => absurd c_11 (by rw [i32_le, nI_toInt (by omega), nI_toInt (by omega)]; omega)) (fun _ => ?_)
    refine xr_aload_n X 3 dX2_howManyBring_14 rfl rfl ?_
    refine xr_iload X 0 dX2_howManyBring_15 rfl ?_
    refine xr_callV X hto rfl kw_672 kw_624 kw_625 cw_X8_outcome [.int (nI k)] (c_X8_outcome hto htf h6 hF (by omega)) rfl rfl rfl rfl rfl rfl rfl dX2_howManyBring_17 ?_
    refine xr_iload_n X 4 dX2_howManyBring_20 rfl rfl ?_
    refine xr_icmp_ne (tgt := 27) X dX2_howManyBring_21 (by decide) (fun c_21 => ?_) (fun c_21 => ?_)
    · have c_21 := mt i32_eq.mpr c_21
      (try simp (disch := omega) only [nI_toInt, i32_add, i32_sub, i32_mul, i64_addl, i32_l] at c_21)
      refine xr_iinc (v := nI (k + 1)) (lv' := [(4, .int (nI (k + 1))), (3, .int (nI (cntB (loP kd wh mn np b s) k))), (0, .ref (e + 20)), (1, .ref w), (2, .int (nI s))]) X 0 dX2_howManyBring_27 rfl (nI_1 _) rfl rfl ?_
      refine xr_goto (tgt := 5) X dX2_howManyBring_30 (by decide) ?_
      refine xr_lve (lv' := [(4, .int (nI (k + 1))), (3, .int (nI (cntB (loP kd wh mn np b s) (k + 1)))), (0, .ref (e + 20)), (1, .ref w), (2, .int (nI s))]) (by rw [cntB, show loP kd wh mn np b s k = false from decide_eq_false (by omega)]; rfl) ?_
      exact ih (k + 1) (by omega)
    · have c_21 := i32_eq.mp c_21
      (try simp (disch := omega) only [nI_toInt, i32_add, i32_sub, i32_mul, i64_addl, i32_l] at c_21)
      refine xr_iinc (v := nI ((cntB (loP kd wh mn np b s) k) + 1)) (lv' := [(3, .int (nI ((cntB (loP kd wh mn np b s) k) + 1))), (4, .int (nI k)), (0, .ref (e + 20)), (1, .ref w), (2, .int (nI s))]) X 1 dX2_howManyBring_24 rfl (nI_1 _) rfl rfl ?_
      refine xr_iinc (v := nI (k + 1)) (lv' := [(4, .int (nI (k + 1))), (3, .int (nI ((cntB (loP kd wh mn np b s) k) + 1))), (0, .ref (e + 20)), (1, .ref w), (2, .int (nI s))]) X 1 dX2_howManyBring_27 rfl (nI_1 _) rfl rfl ?_
      refine xr_goto (tgt := 5) X dX2_howManyBring_30 (by decide) ?_
      refine xr_lve (lv' := [(4, .int (nI (k + 1))), (3, .int (nI (cntB (loP kd wh mn np b s) (k + 1)))), (0, .ref (e + 20)), (1, .ref w), (2, .int (nI s))]) (by rw [cntB, show loP kd wh mn np b s k = true from decide_eq_true (by omega)]; rfl) ?_
      exact ih (k + 1) (by omega)
set_option maxRecDepth 100000 in
theorem c_X2_howManyBring {l : Launch} {Ω : xW} {h : xH} {sz : Nat} {w np day b : Nat} {kd wh mn : Nat → Nat} {fr : Nat → Int32} {e : Nat} {s : Nat} (hfo : h (e + 20) = some (.inr (2, [.ref (e + 21)]))) (hto : h w = some (tO w (nI np) (nI day) (nI b) (nI (moM kd np)))) (htf : h (w + 2) = some (.inl (.int, 64, .inl fr))) (h6 : np ≤ 6) (hF : frOK fr kd wh mn np) (hb : b < 2 ^ np) (hs : s < 2 ^ np) : xC l Ω yX2_howManyBring cX2_howManyBring 5 (some .int) 3 0 0 [.ref (e + 20), .ref w, .int (nI s)] h sz (some (.int (nI (cntB (loP kd wh mn np b s) (2 ^ np))))) h (sz) := by
  refine xC_of (lv := [(0, .ref (e + 20)), (1, .ref w), (2, .int (nI s))]) pn_X2 rfl rfl (fun Γ X hΓ hbs => ?_)
  have X : xX Γ Ω cX2_howManyBring 5 RX2 "howManyBring" (some .int) 3 105 0 0 := X
  subst hΓ
  refine xr_iconst (v := 0) X dX2_howManyBring_0 (by decide) ?_
  refine xr_istore_n (lv' := [(3, .int 0), (0, .ref (e + 20)), (1, .ref w), (2, .int (nI s))]) X dX2_howManyBring_1 rfl rfl rfl ?_
  refine xr_iconst (v := 0) X dX2_howManyBring_2 (by decide) ?_
  refine xr_istore (lv' := [(4, .int 0), (3, .int 0), (0, .ref (e + 20)), (1, .ref w), (2, .int (nI s))]) X dX2_howManyBring_3 rfl rfl ?_
  refine xr_locs (lv' := [(4, .int 0), (3, .int 0), (0, .ref (e + 20)), (1, .ref w), (2, .int (nI s))]) [0, 1, 2, 3, 4] rfl ?_
  exact l_X2_hb X hfo hto htf h6 hF hb hs (2 ^ np) 0 (by omega)
set_option maxRecDepth 100000 in
theorem l_X2_lt {Γ : xΓ} {Ω : xW} {h : xH} {sz : Nat} (X : xX Γ Ω cX2_leastThatBrings 4 RX2 "leastThatBrings" (some .int) 3 105 0 0) {w np day b : Nat} {kd wh mn : Nat → Nat} {fr : Nat → Int32} {e : Nat} {s : Nat} (hfo : h (e + 20) = some (.inr (2, [.ref (e + 21)]))) (hto : h w = some (tO w (nI np) (nI day) (nI b) (nI (moM kd np)))) (htf : h (w + 2) = some (.inl (.int, 64, .inl fr))) (h6 : np ≤ 6) (hF : frOK fr kd wh mn np) (hb : b < 2 ^ np) (hs : s < 2 ^ np) : ∀ (j0 k : Nat), k + j0 = 2 ^ np → (∀ q, q < k → loP kd wh mn np b s q = false) → xG Γ Ω 4 (xQ Γ Ω (some (.int (oN (fstB (loP kd wh mn np b s) (2 ^ np))))) h (sz) 0 0) 2 [(3, .int (nI k)), (0, .ref (e + 20)), (1, .ref w), (2, .int (nI s))] ([]) h sz 0 0 := by
  intro j0
  induction j0 with
  | zero =>
    intro k hk hinv
    have ek : k = 2 ^ np := by omega
    have h64 := pw_le h6
    refine xr_iload_n X 0 dX2_leastThatBrings_2 rfl rfl ?_
    refine xr_aload_n X 2 dX2_leastThatBrings_3 rfl rfl ?_
    refine xr_callV X hto rfl kw_666 kw_509 kw_510 cw_X8_letters [] (c_X8_letters hto h6) rfl rfl rfl rfl rfl rfl rfl dX2_leastThatBrings_4 ?_
    refine xr_icmp_ge (tgt := 27) X dX2_leastThatBrings_7 (by decide) (fun _ => ?_) (fun c_7 => absurd (by subst ek; exact i32_le.mpr (Int.le_refl _)) c_7)
    refine xr_ldc (v := (-1000000)) X kw_678 dX2_leastThatBrings_27 ?_
    exact xr_iret X rfl (by rw [fstB_none (fun q hq => hinv q (by omega))]; rfl) rfl rfl rfl rfl dX2_leastThatBrings_29
  | succ j0 ih =>
    intro k hk hinv
    have lk : k < 2 ^ np := by omega
    have h64 := pw_le h6
    have dl := dn_lt kd wh mn np k b
    refine xr_iload_n X 0 dX2_leastThatBrings_2 rfl rfl ?_
    refine xr_aload_n X 2 dX2_leastThatBrings_3 rfl rfl ?_
    refine xr_callV X hto rfl kw_666 kw_509 kw_510 cw_X8_letters [] (c_X8_letters hto h6) rfl rfl rfl rfl rfl rfl rfl dX2_leastThatBrings_4 ?_
    refine xr_icmp_ge (tgt := 27) X dX2_leastThatBrings_7 (by decide) (fun c_7 => absurd c_7 (by rw [i32_le, nI_toInt (by omega), nI_toInt (by omega)]; omega)) (fun _ => ?_)
    refine xr_aload_n X 2 dX2_leastThatBrings_10 rfl rfl ?_
    refine xr_iload_n X 0 dX2_leastThatBrings_11 rfl rfl ?_
    refine xr_callV X hto rfl kw_672 kw_624 kw_625 cw_X8_outcome [.int (nI k)] (c_X8_outcome hto htf h6 hF (by omega)) rfl rfl rfl rfl rfl rfl rfl dX2_leastThatBrings_12 ?_
    refine xr_iload_n X 3 dX2_leastThatBrings_15 rfl rfl ?_
    refine xr_icmp_ne (tgt := 21) X dX2_leastThatBrings_16 (by decide) (fun c_16 => ?_) (fun c_16 => ?_)
    · have c_16 := mt i32_eq.mpr c_16
      (try simp (disch := omega) only [nI_toInt, i32_add, i32_sub, i32_mul, i64_addl, i32_l] at c_16)
      refine xr_iinc (v := nI (k + 1)) (lv' := [(3, .int (nI (k + 1))), (0, .ref (e + 20)), (1, .ref w), (2, .int (nI s))]) X 0 dX2_leastThatBrings_21 rfl (nI_1 _) rfl rfl ?_
      refine xr_goto (tgt := 2) X dX2_leastThatBrings_24 (by decide) ?_
      exact ih (k + 1) (by omega) (inv_s hinv (decide_eq_false (by omega)))
    · have c_16 := i32_eq.mp c_16
      (try simp (disch := omega) only [nI_toInt, i32_add, i32_sub, i32_mul, i64_addl, i32_l] at c_16)
      refine xr_iload_n X 0 dX2_leastThatBrings_19 rfl rfl ?_
      exact xr_iret X rfl (by rw [fstB_some (show loP kd wh mn np b s k = true from decide_eq_true (by omega)) hinv lk]; rfl) rfl rfl rfl rfl dX2_leastThatBrings_20
set_option maxRecDepth 100000 in
theorem c_X2_leastThatBrings {l : Launch} {Ω : xW} {h : xH} {sz : Nat} {w np day b : Nat} {kd wh mn : Nat → Nat} {fr : Nat → Int32} {e : Nat} {s : Nat} (hfo : h (e + 20) = some (.inr (2, [.ref (e + 21)]))) (hto : h w = some (tO w (nI np) (nI day) (nI b) (nI (moM kd np)))) (htf : h (w + 2) = some (.inl (.int, 64, .inl fr))) (h6 : np ≤ 6) (hF : frOK fr kd wh mn np) (hb : b < 2 ^ np) (hs : s < 2 ^ np) : xC l Ω yX2_leastThatBrings cX2_leastThatBrings 4 (some .int) 3 0 0 [.ref (e + 20), .ref w, .int (nI s)] h sz (some (.int (oN (fstB (loP kd wh mn np b s) (2 ^ np))))) h (sz) := by
  refine xC_of (lv := [(0, .ref (e + 20)), (1, .ref w), (2, .int (nI s))]) pn_X2 rfl rfl (fun Γ X hΓ hbs => ?_)
  have X : xX Γ Ω cX2_leastThatBrings 4 RX2 "leastThatBrings" (some .int) 3 105 0 0 := X
  subst hΓ
  refine xr_iconst (v := 0) X dX2_leastThatBrings_0 (by decide) ?_
  refine xr_istore_n (lv' := [(3, .int 0), (0, .ref (e + 20)), (1, .ref w), (2, .int (nI s))]) X dX2_leastThatBrings_1 rfl rfl rfl ?_
  exact l_X2_lt X hfo hto htf h6 hF hb hs (2 ^ np) 0 (by omega) (fun q hq => by omega)
