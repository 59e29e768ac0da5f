def fuM (o : Option Nat) : Int32 := match o with
  | none => -1
  | some q => nI (bcn q 6)
theorem fuM_t {P : Nat → Bool} {n : Nat} {o : Option Nat} (hp : P n = true) (h : (fuM o).toInt < (bcn n 6 : Int)) : fuC P n o = true := by
  cases o with
  | none => simp [fuC, hp]
  | some q =>
    have := bcn_le q 6
    rw [fuM, nI_toInt (by omega)] at h
    simp [fuC, hp]
    omega
theorem fuM_f {P : Nat → Bool} {n : Nat} {o : Option Nat} (h : ¬ (fuM o).toInt < (bcn n 6 : Int)) : fuC P n o = false := by
  cases o with
  | none => exfalso; apply h; rw [fuM, k32_m1]; omega
  | some q =>
    have := bcn_le q 6
    rw [fuM, nI_toInt (by omega)] at h
    simp [fuC]
    omega
theorem fuC_0 {P : Nat → Bool} {n : Nat} {o : Option Nat} (hp : P n = false) : fuC P n o = false := by simp [fuC, hp]
def chF (kd wh mn : Nat → Nat) (np b : Nat) : Nat → Nat := fun l => prB (odT kd wh mn b l l) np
theorem odT_le {kd wh mn : Nat → Nat} {np b l s : Nat} (hm : ∀ p, p < np → mn p ≤ 9) : prB (odT kd wh mn b l s) np ≤ 10 ^ np := prB_le2 (fun p hp => by
  have := hm p hp
  unfold odT
  split <;> split <;> omega)
theorem PW.mn {B : Nat} {h : xH} {pf : Nat → Option Nat} {np : Nat} {kd wh mn : Nat → Nat} (g : PW B h pf np kd wh mn) : ∀ p, p < np → mn p ≤ 9 := fun p hp => (g p hp).2.2.2.2
theorem fstB_is {Q : Nat → Bool} {n : Nat} : (fstB Q n).isSome = true ↔ ∃ l, l < n ∧ Q l = true := by
  constructor
  · intro h
    obtain ⟨k, hk⟩ := Option.isSome_iff_exists.mp h
    exact ⟨k, (fstB_lt hk).1, (fstB_lt hk).2⟩
  · intro h
    obtain ⟨k, hk, -⟩ := fst_ex h
    rw [hk]; rfl
theorem bool_iff {a b : Bool} (h : a = true ↔ b = true) : a = b := by cases a <;> cases b <;> simp_all
theorem m63 (i p : Nat) : (63 ^^^ 2 ^ i).testBit p = (decide (p < 6) ^^ decide (i = p)) := by
  rw [Nat.testBit_xor, Nat.testBit_two_pow, show 63 = 2 ^ 6 - 1 from rfl, Nat.testBit_two_pow_sub_one]
theorem nI_i {p i : Nat} (hp : p < 64) (hi : i < 64) : (nI p = nI i) = (p = i) := propext (nI_eq (by omega) (by omega))
theorem dnO_1 {kd wh mn : Nat → Nat} {np i l b : Nat} (h6 : np ≤ 6) (hi : i < np) : dnO kd wh mn np (nI i) 1 l b = (dn kd wh mn np l b &&& (63 ^^^ 2 ^ i) ||| 2 ^ i) := by
  apply Nat.eq_of_testBit_eq
  intro p
  rw [dnO, dn, Nat.testBit_or, Nat.testBit_and, osum_bit, osum_bit, m63, Nat.testBit_two_pow]
  by_cases hp : p < np
  · unfold dO
    by_cases e : p = i
    · subst e; simp [hp]
    · simp [hp, nI_i (show p < 64 by omega) (show i < 64 by omega), e, Ne.symm e, show p < 6 by omega]
  · simp [hp, show ¬ i = p by omega]
theorem dnO_2 {kd wh mn : Nat → Nat} {np i l b : Nat} (h6 : np ≤ 6) (hi : i < np) : dnO kd wh mn np (nI i) 2 l b = (dn kd wh mn np l b &&& (63 ^^^ 2 ^ i) ||| 0) := by
  apply Nat.eq_of_testBit_eq
  intro p
  rw [dnO, dn, Nat.or_zero, Nat.testBit_and, osum_bit, osum_bit, m63]
  by_cases hp : p < np
  · unfold dO
    by_cases e : p = i
    · subst e; simp [hp, show p < 6 by omega]
    · simp [hp, nI_i (show p < 64 by omega) (show i < 64 by omega), e, Ne.symm e, show p < 6 by omega]
  · simp [hp]

theorem dnO_0 {kd wh mn : Nat → Nat} {np i l b : Nat} (h6 : np ≤ 6) (hi : i < np) : dnO kd wh mn np (nI i) 0 l b = if l.testBit i = true then dnO kd wh mn np (nI i) 1 l b else dnO kd wh mn np (nI i) 2 l b := by
  by_cases h : l.testBit i = true
  · rw [if_pos h]
    refine osum_congr (fun p hp => ?_)
    unfold dO
    by_cases e : p = i
    · subst e; simp [h]
    · rw [if_neg (by rw [nI_i (by omega) (by omega)]; exact e), if_neg (by rw [nI_i (by omega) (by omega)]; exact e)]
  · rw [if_neg h]
    refine osum_congr (fun p hp => ?_)
    unfold dO
    by_cases e : p = i
    · subst e; simp [h]
    · rw [if_neg (by rw [nI_i (by omega) (by omega)]; exact e), if_neg (by rw [nI_i (by omega) (by omega)]; exact e)]
theorem dnO_b1 {kd wh mn : Nat → Nat} {np i l b : Nat} (h6 : np ≤ 6) (hi : i < np) : (dnO kd wh mn np (nI i) 1 l b).testBit i = true := by
  rw [dnO, osum_bit]
  simp [dO, hi]
theorem dnO_b2 {kd wh mn : Nat → Nat} {np i l b : Nat} (h6 : np ≤ 6) (hi : i < np) : (dnO kd wh mn np (nI i) 2 l b).testBit i = false := by
  rw [dnO, osum_bit]
  simp [dO, hi]
def saB (kd wh mn : Nat → Nat) (np b i o : Nat) : Bool := (fstB (laP kd wh mn np b (63 ^^^ 2 ^ i) o) (2 ^ np)).isSome
theorem exL_1 {kd wh mn : Nat → Nat} {np i b : Nat} (h6 : np ≤ 6) (hi : i < np) : exL kd wh mn np b (nI i) 1 = saB kd wh mn np b i (2 ^ i) := by
  unfold exL saB
  rw [fstB_congr (fun l _ => show decide (dnO kd wh mn np (nI i) 1 l b = l) = laP kd wh mn np b (63 ^^^ 2 ^ i) (2 ^ i) l by rw [dnO_1 h6 hi]; rfl)]
theorem exL_2 {kd wh mn : Nat → Nat} {np i b : Nat} (h6 : np ≤ 6) (hi : i < np) : exL kd wh mn np b (nI i) 2 = saB kd wh mn np b i 0 := by
  unfold exL saB
  rw [fstB_congr (fun l _ => show decide (dnO kd wh mn np (nI i) 2 l b = l) = laP kd wh mn np b (63 ^^^ 2 ^ i) 0 l by rw [dnO_2 h6 hi]; rfl)]
theorem exL_0 {kd wh mn : Nat → Nat} {np i b : Nat} (h6 : np ≤ 6) (hi : i < np) : exL kd wh mn np b (nI i) 0 = (saB kd wh mn np b i (2 ^ i) || saB kd wh mn np b i 0) := by
  rw [← exL_1 h6 hi, ← exL_2 h6 hi]
  apply bool_iff
  rw [Bool.or_eq_true]
  unfold exL
  rw [fstB_is, fstB_is, fstB_is]
  constructor
  · rintro ⟨l, hl, h⟩
    have h := of_decide_eq_true h
    rw [dnO_0 h6 hi] at h
    by_cases c : l.testBit i = true
    · rw [if_pos c] at h; exact Or.inl ⟨l, hl, decide_eq_true h⟩
    · rw [if_neg c] at h; exact Or.inr ⟨l, hl, decide_eq_true h⟩
  · rintro (⟨l, hl, h⟩ | ⟨l, hl, h⟩)
    · have h := of_decide_eq_true h
      have c : l.testBit i = true := by rw [← h]; exact dnO_b1 h6 hi
      exact ⟨l, hl, decide_eq_true (by rw [dnO_0 h6 hi, if_pos c]; exact h)⟩
    · have h := of_decide_eq_true h
      have c : ¬ l.testBit i = true := by rw [← h, dnO_b2 h6 hi]; decide
      exact ⟨l, hl, decide_eq_true (by rw [dnO_0 h6 hi, if_neg c]; exact h)⟩
set_option maxRecDepth 100000 in
theorem l_X2_fu {Γ : xΓ} {Ω : xW} {h : xH} {sz : Nat} (X : xX Γ Ω cX2_fullestLetter 5 RX2 "fullestLetter" (some .int) 4 140 0 0) {w np day b : Nat} {kd wh mn : Nat → Nat} {fr : Nat → Int32} {e : Nat} (hfo : h (e + 20) = some (.inr (2, [.ref (e + 21)]))) (hto : h w = some (tO w (nI np) (nI day) (nI b) (nI (moM kd np)))) (htf : h (w + 2) = some (.inl (.int, 64, .inl fr))) (h6 : np ≤ 6) (hF : frOK fr kd wh mn np) (hb : b < 2 ^ np) : ∀ (j0 k : Nat), k + j0 = 2 ^ np → xG Γ Ω 5 (xQ Γ Ω (some (.int (oN (fuS (agr kd wh mn np b) (2 ^ np))))) h (sz) 0 0) 8 [(4, .int (nI k)), (2, .int (oN (fuS (agr kd wh mn np b) k))), (3, .int (fuM (fuS (agr kd wh mn np b) k))), (0, .ref (e + 20)), (1, .ref w)] ([]) h sz 0 0 := by
  intro j0
  induction j0 with
  | zero =>
    intro k hk
    have ek : k = 2 ^ np := by omega
    have h64 := pw_le h6
    refine xr_iload X 0 dX2_fullestLetter_8 rfl ?_
    refine xr_aload_n X 4 dX2_fullestLetter_10 rfl rfl ?_
    refine xr_callV X hto rfl kw_666 kw_509 kw_510 cw_X8_letters [] (c_X8_letters hto h6) rfl rfl rfl rfl rfl rfl rfl dX2_fullestLetter_11 ?_
    refine xr_icmp_ge (tgt := 50) X dX2_fullestLetter_14 (by decide) (fun _ => ?_) (fun c_14 => absurd (by subst ek; exact i32_le.mpr (Int.le_refl _)) c_14)
    refine xr_iload_n X 1 dX2_fullestLetter_50 rfl rfl ?_
    exact xr_iret X rfl (by rw [ek]) rfl rfl rfl rfl dX2_fullestLetter_51
  | succ j0 ih =>
    intro k hk
    have lk : k < 2 ^ np := by omega
    have h64 := pw_le h6
    have dl := dn_lt kd wh mn np k b
    have bl := bcn_le k 6
    refine xr_iload X 0 dX2_fullestLetter_8 rfl ?_
    refine xr_aload_n X 4 dX2_fullestLetter_10 rfl rfl ?_
    refine xr_callV X hto rfl kw_666 kw_509 kw_510 cw_X8_letters [] (c_X8_letters hto h6) rfl rfl rfl rfl rfl rfl rfl dX2_fullestLetter_11 ?_
    refine xr_icmp_ge (tgt := 50) X dX2_fullestLetter_14 (by decide) (fun c_14 => absurd c_14 (by rw [i32_le, nI_toInt (by omega), nI_toInt (by omega)]; omega)) (fun _ => ?_)
    refine xr_aload_n X 4 dX2_fullestLetter_17 rfl rfl ?_
    refine xr_iload X 0 dX2_fullestLetter_18 rfl ?_
    refine xr_callV X hto rfl kw_677 kw_569 kw_570 cw_X8_agrees [.int (nI k)] (c_X8_agrees hto htf h6 hF (by omega)) rfl rfl rfl rfl rfl rfl rfl dX2_fullestLetter_20 ?_
    refine xr_if_eq (tgt := 44) X dX2_fullestLetter_23 (by decide) (fun c_23 => ?_) (fun c_23 => ?_)
    · have c_23 := xb_0.mp c_23
      refine xr_iinc (v := nI (k + 1)) (lv' := [(4, .int (nI (k + 1))), (2, .int (oN (fuS (agr kd wh mn np b) k))), (3, .int (fuM (fuS (agr kd wh mn np b) k))), (0, .ref (e + 20)), (1, .ref w)]) X 0 dX2_fullestLetter_44 rfl (nI_1 _) rfl rfl ?_
      refine xr_goto (tgt := 8) X dX2_fullestLetter_47 (by decide) ?_
      refine xr_lve (lv' := [(4, .int (nI (k + 1))), (2, .int (oN (fuS (agr kd wh mn np b) (k + 1)))), (3, .int (fuM (fuS (agr kd wh mn np b) (k + 1)))), (0, .ref (e + 20)), (1, .ref w)]) (by rw [fuS, if_neg (by rw [fuC_0 c_23]; decide)]) ?_
      exact ih (k + 1) (by omega)
    · have c_23 := xb_1.mp c_23
      refine xr_iload X 0 dX2_fullestLetter_26 rfl ?_
      refine xr_callS X kw_687 kw_529 cw_J6_bitCount_0f7a4 [.int (nI k)] (c_J6_bitCount_0f7a4 (by omega)) rfl rfl rfl rfl rfl rfl rfl dX2_fullestLetter_28 ?_
      refine xr_iload_n X 2 dX2_fullestLetter_31 rfl rfl ?_
      refine xr_icmp_le (tgt := 44) X dX2_fullestLetter_32 (by decide) (fun c_32 => ?_) (fun c_32 => ?_)
      · have c_32 := i32_le.mp c_32
        (try simp (disch := omega) only [nI_toInt, i32_add, i32_sub, i32_mul, i64_addl, i32_l, k32_6, k64_6] at c_32)
        refine xr_iinc (v := nI (k + 1)) (lv' := [(4, .int (nI (k + 1))), (2, .int (oN (fuS (agr kd wh mn np b) k))), (3, .int (fuM (fuS (agr kd wh mn np b) k))), (0, .ref (e + 20)), (1, .ref w)]) X 0 dX2_fullestLetter_44 rfl (nI_1 _) rfl rfl ?_
        refine xr_goto (tgt := 8) X dX2_fullestLetter_47 (by decide) ?_
        refine xr_lve (lv' := [(4, .int (nI (k + 1))), (2, .int (oN (fuS (agr kd wh mn np b) (k + 1)))), (3, .int (fuM (fuS (agr kd wh mn np b) (k + 1)))), (0, .ref (e + 20)), (1, .ref w)]) (by rw [fuS, if_neg (by rw [fuM_f (by omega)]; decide)]) ?_
        exact ih (k + 1) (by omega)
      · have c_32 := mt i32_le.mpr c_32
        (try simp (disch := omega) only [nI_toInt, i32_add, i32_sub, i32_mul, i64_addl, i32_l, k32_6, k64_6] at c_32)
        refine xr_iload X 0 dX2_fullestLetter_35 rfl ?_
        refine xr_istore_n (lv' := [(2, .int (nI k)), (4, .int (nI k)), (3, .int (fuM (fuS (agr kd wh mn np b) k))), (0, .ref (e + 20)), (1, .ref w)]) X dX2_fullestLetter_37 rfl rfl rfl ?_
        refine xr_iload X 1 dX2_fullestLetter_38 rfl ?_
        refine xr_callS X kw_687 kw_529 cw_J6_bitCount_0f7a4 [.int (nI k)] (c_J6_bitCount_0f7a4 (by omega)) rfl rfl rfl rfl rfl rfl rfl dX2_fullestLetter_40 ?_
        refine xr_istore_n (lv' := [(3, .int (nI (bcn k 6))), (2, .int (nI k)), (4, .int (nI k)), (0, .ref (e + 20)), (1, .ref w)]) X dX2_fullestLetter_43 rfl rfl rfl ?_
        refine xr_iinc (v := nI (k + 1)) (lv' := [(4, .int (nI (k + 1))), (3, .int (nI (bcn k 6))), (2, .int (nI k)), (0, .ref (e + 20)), (1, .ref w)]) X 2 dX2_fullestLetter_44 rfl (nI_1 _) rfl rfl ?_
        refine xr_goto (tgt := 8) X dX2_fullestLetter_47 (by decide) ?_
        refine xr_locs (lv' := [(4, .int (nI (k + 1))), (2, .int (nI k)), (3, .int (nI (bcn k 6))), (0, .ref (e + 20)), (1, .ref w)]) [0, 2, 1, 3, 4] rfl ?_
        refine xr_lve (lv' := [(4, .int (nI (k + 1))), (2, .int (oN (fuS (agr kd wh mn np b) (k + 1)))), (3, .int (fuM (fuS (agr kd wh mn np b) (k + 1)))), (0, .ref (e + 20)), (1, .ref w)]) (by rw [fuS, if_pos (fuM_t c_23 (by omega))]; rfl) ?_
        exact ih (k + 1) (by omega)
set_option maxRecDepth 100000 in
theorem c_X2_fullestLetter {l : Launch} {Ω : xW} {h : xH} {sz : Nat} {w np day b : Nat} {kd wh mn : Nat → Nat} {fr : Nat → Int32} {e : Nat} (hfo : h (e + 20) = some (.inr (2, [.ref (e + 21)]))) (hto : h w = some (tO w (nI np) (nI day) (nI b) (nI (moM kd np)))) (htf : h (w + 2) = some (.inl (.int, 64, .inl fr))) (h6 : np ≤ 6) (hF : frOK fr kd wh mn np) (hb : b < 2 ^ np) : xC l Ω yX2_fullestLetter cX2_fullestLetter 5 (some .int) 4 0 0 [.ref (e + 20), .ref w] h sz (some (.int (oN (fuS (agr kd wh mn np b) (2 ^ np))))) h (sz) := by
  refine xC_of (lv := [(0, .ref (e + 20)), (1, .ref w)]) pn_X2 rfl rfl (fun Γ X hΓ hbs => ?_)
  have X : xX Γ Ω cX2_fullestLetter 5 RX2 "fullestLetter" (some .int) 4 140 0 0 := X
  subst hΓ
  refine xr_ldc (v := (-1000000)) X kw_678 dX2_fullestLetter_0 ?_
  refine xr_istore_n (lv' := [(2, .int (-1000000)), (0, .ref (e + 20)), (1, .ref w)]) X dX2_fullestLetter_2 rfl rfl rfl ?_
  refine xr_iconst (v := (-1)) X dX2_fullestLetter_3 (by decide) ?_
  refine xr_istore_n (lv' := [(3, .int (-1)), (2, .int (-1000000)), (0, .ref (e + 20)), (1, .ref w)]) X dX2_fullestLetter_4 rfl rfl rfl ?_
  refine xr_iconst (v := 0) X dX2_fullestLetter_5 (by decide) ?_
  refine xr_istore (lv' := [(4, .int 0), (3, .int (-1)), (2, .int (-1000000)), (0, .ref (e + 20)), (1, .ref w)]) X dX2_fullestLetter_6 rfl rfl ?_
  refine xr_locs (lv' := [(4, .int 0), (2, .int (-1000000)), (3, .int (-1)), (0, .ref (e + 20)), (1, .ref w)]) [0, 2, 1, 3, 4] rfl ?_
  exact l_X2_fu X hfo hto htf h6 hF hb (2 ^ np) 0 (by omega)
set_option maxRecDepth 100000 in
theorem l_X2_lk {Γ : xΓ} {Ω : xW} {h : xH} {sz : Nat} (X : xX Γ Ω cX2_likeliestLetter 6 RX2 "likeliestLetter" (some .int) 4 140 0 0) {w B np day b : Nat} {kd wh mn : Nat → Nat} {pf : Nat → Option Nat} {e : Nat} (hfo : h (e + 20) = some (.inr (2, [.ref (e + 21)]))) (hto : h w = some (tO w (nI np) (nI day) (nI b) (nI (moM kd np)))) (htp : h (w + 1) = some (.inl (.object "EvePost$Person", 6, .inr (.inr (.inr (.inr pf)))))) (h6 : np ≤ 6) (hP : PW B h pf np kd wh mn) (hb : b < 2 ^ np) : ∀ (j0 k : Nat), k + j0 = 2 ^ np - 1 → xG Γ Ω 6 (xQ Γ Ω (some (.int (nI (liS (chF kd wh mn np b) (2 ^ np - 1))))) h (sz) 0 0) 12 [(4, .int (nI (k + 1))), (2, .int (nI (liS (chF kd wh mn np b) k))), (3, .int (nI (chF kd wh mn np b (liS (chF kd wh mn np b) k)))), (0, .ref (e + 20)), (1, .ref w)] ([]) h sz 0 0 := by
  intro j0
  induction j0 with
  | zero =>
    intro k hk
    have ek : k = 2 ^ np - 1 := by omega
    have h64 := pw_le h6
    refine xr_iload X 0 dX2_likeliestLetter_12 rfl ?_
    refine xr_aload_n X 4 dX2_likeliestLetter_14 rfl rfl ?_
    refine xr_callV X hto rfl kw_666 kw_509 kw_510 cw_X8_letters [] (c_X8_letters hto h6) rfl rfl rfl rfl rfl rfl rfl dX2_likeliestLetter_15 ?_
    refine xr_icmp_ge (tgt := 49) X dX2_likeliestLetter_18 (by decide) (fun _ => ?_) (fun c_18 => absurd (by rw [ek, show 2 ^ np - 1 + 1 = 2 ^ np from Nat.sub_add_cancel (Nat.two_pow_pos np)]; exact i32_le.mpr (Int.le_refl _)) c_18)
    refine xr_iload_n X 1 dX2_likeliestLetter_49 rfl rfl ?_
    exact xr_iret X rfl (by rw [ek]) rfl rfl rfl rfl dX2_likeliestLetter_50
  | succ j0 ih =>
    intro k hk
    have lk : k < 2 ^ np - 1 := by omega
    have h64 := pw_le h6
    have t6 := ten6 h6
    have c1 : ∀ l, chF kd wh mn np b l ≤ 10 ^ np := fun l => odT_le hP.mn
    have c2 := c1 (k + 1)
    have c3 := c1 (liS (chF kd wh mn np b) k)
    refine xr_iload X 0 dX2_likeliestLetter_12 rfl ?_
    refine xr_aload_n X 4 dX2_likeliestLetter_14 rfl rfl ?_
    refine xr_callV X hto rfl kw_666 kw_509 kw_510 cw_X8_letters [] (c_X8_letters hto h6) rfl rfl rfl rfl rfl rfl rfl dX2_likeliestLetter_15 ?_
    refine xr_icmp_ge (tgt := 49) X dX2_likeliestLetter_18 (by decide) (fun c_18 => absurd c_18 (by rw [i32_le, nI_toInt (by omega), nI_toInt (by omega)]; omega)) (fun _ => ?_)
    refine xr_aload_n X 4 dX2_likeliestLetter_21 rfl rfl ?_
    refine xr_iload X 0 dX2_likeliestLetter_22 rfl ?_
    refine xr_iload X 0 dX2_likeliestLetter_24 rfl ?_
    refine xr_callV X hto rfl kw_782 kw_747 kw_748 cw_X8_chances [.int (nI (k + 1)), .int (nI (k + 1))] (c_X8_chances (lt := (k + 1)) (s2 := (k + 1)) hto htp h6 hP (by omega) (by omega) (by omega)) rfl rfl rfl rfl rfl rfl rfl dX2_likeliestLetter_26 ?_
    refine xr_istore (lv' := [(5, .int (nI (chF kd wh mn np b (k + 1)))), (4, .int (nI (k + 1))), (2, .int (nI (liS (chF kd wh mn np b) k))), (3, .int (nI (chF kd wh mn np b (liS (chF kd wh mn np b) k)))), (0, .ref (e + 20)), (1, .ref w)]) X dX2_likeliestLetter_29 rfl rfl ?_
    refine xr_iload X 0 dX2_likeliestLetter_31 rfl ?_
    refine xr_iload_n X 3 dX2_likeliestLetter_33 rfl rfl ?_
    refine xr_icmp_le (tgt := 43) X dX2_likeliestLetter_34 (by decide) (fun c_34 => ?_) (fun c_34 => ?_)
    · have c_34 := i32_le.mp c_34
      (try simp (disch := omega) only [nI_toInt, i32_add, i32_sub, i32_mul, i64_addl, i32_l, k32_1, k64_1] at c_34)
      refine xr_iinc (v := nI ((k + 1) + 1)) (lv' := [(4, .int (nI ((k + 1) + 1))), (5, .int (nI (chF kd wh mn np b (k + 1)))), (2, .int (nI (liS (chF kd wh mn np b) k))), (3, .int (nI (chF kd wh mn np b (liS (chF kd wh mn np b) k)))), (0, .ref (e + 20)), (1, .ref w)]) X 1 dX2_likeliestLetter_43 rfl (nI_1 _) rfl rfl ?_
      refine xr_goto (tgt := 12) X dX2_likeliestLetter_46 (by decide) ?_
      refine xr_locs (lv' := [(4, .int (nI ((k + 1) + 1))), (2, .int (nI (liS (chF kd wh mn np b) k))), (3, .int (nI (chF kd wh mn np b (liS (chF kd wh mn np b) k)))), (0, .ref (e + 20)), (1, .ref w)]) [0, 2, 3, 4, 5] rfl ?_
      refine xr_lve (lv' := [(4, .int (nI ((k + 1) + 1))), (2, .int (nI (liS (chF kd wh mn np b) (k + 1)))), (3, .int (nI (chF kd wh mn np b (liS (chF kd wh mn np b) (k + 1))))), (0, .ref (e + 20)), (1, .ref w)]) (by rw [liS, if_neg (by omega)]) ?_
      exact ih (k + 1) (by omega)
    · have c_34 := mt i32_le.mpr c_34
      (try simp (disch := omega) only [nI_toInt, i32_add, i32_sub, i32_mul, i64_addl, i32_l, k32_1, k64_1] at c_34)
      refine xr_iload X 1 dX2_likeliestLetter_37 rfl ?_
      refine xr_istore_n (lv' := [(2, .int (nI (k + 1))), (5, .int (nI (chF kd wh mn np b (k + 1)))), (4, .int (nI (k + 1))), (3, .int (nI (chF kd wh mn np b (liS (chF kd wh mn np b) k)))), (0, .ref (e + 20)), (1, .ref w)]) X dX2_likeliestLetter_39 rfl rfl rfl ?_
      refine xr_iload X 1 dX2_likeliestLetter_40 rfl ?_
      refine xr_istore_n (lv' := [(3, .int (nI (chF kd wh mn np b (k + 1)))), (2, .int (nI (k + 1))), (5, .int (nI (chF kd wh mn np b (k + 1)))), (4, .int (nI (k + 1))), (0, .ref (e + 20)), (1, .ref w)]) X dX2_likeliestLetter_42 rfl rfl rfl ?_
      refine xr_iinc (v := nI ((k + 1) + 1)) (lv' := [(4, .int (nI ((k + 1) + 1))), (3, .int (nI (chF kd wh mn np b (k + 1)))), (2, .int (nI (k + 1))), (5, .int (nI (chF kd wh mn np b (k + 1)))), (0, .ref (e + 20)), (1, .ref w)]) X 3 dX2_likeliestLetter_43 rfl (nI_1 _) rfl rfl ?_
      refine xr_goto (tgt := 12) X dX2_likeliestLetter_46 (by decide) ?_
      refine xr_locs (lv' := [(4, .int (nI ((k + 1) + 1))), (2, .int (nI (k + 1))), (3, .int (nI (chF kd wh mn np b (k + 1)))), (0, .ref (e + 20)), (1, .ref w)]) [0, 2, 1, 4, 5] rfl ?_
      refine xr_lve (lv' := [(4, .int (nI ((k + 1) + 1))), (2, .int (nI (liS (chF kd wh mn np b) (k + 1)))), (3, .int (nI (chF kd wh mn np b (liS (chF kd wh mn np b) (k + 1))))), (0, .ref (e + 20)), (1, .ref w)]) (by rw [liS, if_pos (by omega)]) ?_
      exact ih (k + 1) (by omega)
set_option maxRecDepth 100000 in
theorem c_X2_likeliestLetter {l : Launch} {Ω : xW} {h : xH} {sz : Nat} {w B np day b : Nat} {kd wh mn : Nat → Nat} {pf : Nat → Option Nat} {e : Nat} (hfo : h (e + 20) = some (.inr (2, [.ref (e + 21)]))) (hto : h w = some (tO w (nI np) (nI day) (nI b) (nI (moM kd np)))) (htp : h (w + 1) = some (.inl (.object "EvePost$Person", 6, .inr (.inr (.inr (.inr pf)))))) (h6 : np ≤ 6) (hP : PW B h pf np kd wh mn) (hb : b < 2 ^ np) : xC l Ω yX2_likeliestLetter cX2_likeliestLetter 6 (some .int) 4 0 0 [.ref (e + 20), .ref w] h sz (some (.int (nI (liS (chF kd wh mn np b) (2 ^ np - 1))))) h (sz) := by
  refine xC_of (lv := [(0, .ref (e + 20)), (1, .ref w)]) pn_X2 rfl rfl (fun Γ X hΓ hbs => ?_)
  have X : xX Γ Ω cX2_likeliestLetter 6 RX2 "likeliestLetter" (some .int) 4 140 0 0 := X
  subst hΓ
  have h64 := pw_le h6
  refine xr_iconst (v := 0) X dX2_likeliestLetter_0 (by decide) ?_
  refine xr_istore_n (lv' := [(2, .int 0), (0, .ref (e + 20)), (1, .ref w)]) X dX2_likeliestLetter_1 rfl rfl rfl ?_
  refine xr_aload_n X 2 dX2_likeliestLetter_2 rfl rfl ?_
  refine xr_iconst (v := 0) X dX2_likeliestLetter_3 (by decide) ?_
  refine xr_iconst (v := 0) X dX2_likeliestLetter_4 (by decide) ?_
  refine xr_callV X hto rfl kw_782 kw_747 kw_748 cw_X8_chances [.int 0, .int 0] (c_X8_chances (lt := 0) (s2 := 0) hto htp h6 hP (by omega) (by omega) (by omega)) rfl rfl rfl rfl rfl rfl rfl dX2_likeliestLetter_5 ?_
  refine xr_istore_n (lv' := [(3, .int (nI (chF kd wh mn np b 0))), (2, .int 0), (0, .ref (e + 20)), (1, .ref w)]) X dX2_likeliestLetter_8 rfl rfl rfl ?_
  refine xr_iconst (v := 1) X dX2_likeliestLetter_9 (by decide) ?_
  refine xr_istore (lv' := [(4, .int 1), (3, .int (nI (chF kd wh mn np b 0))), (2, .int 0), (0, .ref (e + 20)), (1, .ref w)]) X dX2_likeliestLetter_10 rfl rfl ?_
  refine xr_locs (lv' := [(4, .int 1), (2, .int 0), (3, .int (nI (chF kd wh mn np b 0))), (0, .ref (e + 20)), (1, .ref w)]) [0, 2, 1, 3, 4] rfl ?_
  exact l_X2_lk X hfo hto htp h6 hP hb (2 ^ np - 1) 0 (by omega)
set_option maxRecDepth 100000 in
theorem l_X2_whoHinders {Γ : xΓ} {Ω : xW} {h : xH} {sz : Nat} (X : xX Γ Ω cX2_whoHinders 5 RX2 "whoHinders" (some .int) 5 175 0 0) {w np day b : Nat} {kd wh mn : Nat → Nat} {fr : Nat → Int32} {e : Nat} (hfo : h (e + 20) = some (.inr (2, [.ref (e + 21)]))) (hto : h w = some (tO w (nI np) (nI day) (nI b) (nI (moM kd np)))) (htf : h (w + 2) = some (.inl (.int, 64, .inl fr))) (h6 : np ≤ 6) (hF : frOK fr kd wh mn np) (hb : b < 2 ^ np) : ∀ (j0 p : Nat), p + j0 = np → xG Γ Ω 5 (xQ Γ Ω (some (.int (nI (osum (cuP kd wh mn np b 0) np)))) h (sz) 0 0) 4 [(3, .int (nI p)), (2, .int (nI (osum (cuP kd wh mn np b 0) p))), (0, .ref (e + 20)), (1, .ref w)] ([]) h sz 0 0 := by
  intro j0
  induction j0 with
  | zero =>
    intro p hk
    have ek : p = np := by omega
    refine xr_iload_n X 0 dX2_whoHinders_4 rfl rfl ?_
    refine xr_aload_n X 3 dX2_whoHinders_5 rfl rfl ?_
    refine xr_callV X hto rfl kw_696 kw_544 kw_545 cw_X8_size [] (c_X8_size hto) rfl rfl rfl rfl rfl rfl rfl dX2_whoHinders_6 ?_
    refine xr_icmp_ge (tgt := 51) X dX2_whoHinders_9 (by decide) (fun _ => ?_) (fun c_9 => absurd (by subst ek; exact i32_le.mpr (Int.le_refl _)) c_9)
    refine xr_iload_n X 1 dX2_whoHinders_51 rfl rfl ?_
    exact xr_iret X rfl (by rw [ek]) rfl rfl rfl rfl dX2_whoHinders_52
  | succ j0 ih =>
    intro p hk
    have lk : p < np := by omega
    have h64 := pw_le h6
    have hp64 : 2 ^ p < 64 := Nat.pow_lt_pow_right (m := p) (n := 6) (by omega) (by omega)
    refine xr_iload_n X 0 dX2_whoHinders_4 rfl rfl ?_
    refine xr_aload_n X 3 dX2_whoHinders_5 rfl rfl ?_
    refine xr_callV X hto rfl kw_696 kw_544 kw_545 cw_X8_size [] (c_X8_size hto) rfl rfl rfl rfl rfl rfl rfl dX2_whoHinders_6 ?_
    refine xr_icmp_ge (tgt := 51) X dX2_whoHinders_9 (by decide) (fun c_9 => absurd c_9 (by rw [i32_le, nI_toInt (by omega), nI_toInt (by omega)]; omega)) (fun _ => ?_)
    refine xr_iconst (v := 1) X dX2_whoHinders_12 (by decide) ?_
    refine xr_iload_n X 0 dX2_whoHinders_13 rfl rfl ?_
    refine xr_ishl X dX2_whoHinders_14 ?_
    refine xr_top (y := (nI (2 ^ p))) (pw6 p (by omega)) ?_
    refine xr_istore (lv' := [(4, .int (nI (2 ^ p))), (3, .int (nI p)), (2, .int (nI (osum (cuP kd wh mn np b 0) p))), (0, .ref (e + 20)), (1, .ref w)]) X dX2_whoHinders_15 rfl rfl ?_
    refine xr_aload_n X 3 dX2_whoHinders_17 rfl rfl ?_
    refine xr_aload_n X 4 dX2_whoHinders_18 rfl rfl ?_
    refine xr_iload X 0 dX2_whoHinders_19 rfl ?_
    refine xr_iload X 0 dX2_whoHinders_21 rfl ?_
    refine xr_callV X hfo rfl kw_697 kw_699 kw_16 cw_X2_someAgrees [.ref w, .int (nI (2 ^ p)), .int (nI (2 ^ p))] (c_X2_someAgrees (i := p) (o := (2 ^ p)) hfo hto htf h6 hF hb (by omega) (by omega)) rfl rfl rfl rfl rfl rfl rfl dX2_whoHinders_23 ?_
    refine xr_if_ne (tgt := 40) X dX2_whoHinders_26 (by decide) (fun c_26 => ?_) (fun c_26 => ?_)
    · have c_26 := xb_1.mp c_26
      have hcu : cuP kd wh mn np b 0 p = true := (by rw [cuP, if_pos rfl, exL_0 h6 (by omega)]; simp [saB, c_26])
      refine xr_iload_n X 2 dX2_whoHinders_40 rfl rfl ?_
      refine xr_iload X 0 dX2_whoHinders_41 rfl ?_
      refine xr_ior X dX2_whoHinders_43 ?_
      refine xr_top (y := (nI (osum (cuP kd wh mn np b 0) (p + 1)))) (by rw [osum, if_pos hcu, ← pw6 p (by omega)]; exact or_p p (by omega) _ (osum_lt _ _)) ?_
      refine xr_istore_n (lv' := [(2, .int (nI (osum (cuP kd wh mn np b 0) (p + 1)))), (4, .int (nI (2 ^ p))), (3, .int (nI p)), (0, .ref (e + 20)), (1, .ref w)]) X dX2_whoHinders_44 rfl rfl rfl ?_
      
      refine xr_iinc (v := nI (p + 1)) (lv' := [(3, .int (nI (p + 1))), (2, .int (nI (osum (cuP kd wh mn np b 0) (p + 1)))), (4, .int (nI (2 ^ p))), (0, .ref (e + 20)), (1, .ref w)]) X 2 dX2_whoHinders_45 rfl (nI_1 _) rfl rfl ?_
      refine xr_goto (tgt := 4) X dX2_whoHinders_48 (by decide) ?_
      refine xr_locs (lv' := [(3, .int (nI (p + 1))), (2, .int (nI (osum (cuP kd wh mn np b 0) (p + 1)))), (0, .ref (e + 20)), (1, .ref w)]) [0, 1, 3, 4] rfl ?_
      exact ih (p + 1) (by omega)
    · have c_26 := xb_0.mp c_26
      refine xr_aload_n X 3 dX2_whoHinders_29 rfl rfl ?_
      refine xr_aload_n X 4 dX2_whoHinders_30 rfl rfl ?_
      refine xr_iload X 0 dX2_whoHinders_31 rfl ?_
      refine xr_iconst (v := 0) X dX2_whoHinders_33 (by decide) ?_
      refine xr_callV X hfo rfl kw_697 kw_699 kw_16 cw_X2_someAgrees [.ref w, .int (nI (2 ^ p)), .int 0] (c_X2_someAgrees (i := p) (o := 0) hfo hto htf h6 hF hb (by omega) (by omega)) rfl rfl rfl rfl rfl rfl rfl dX2_whoHinders_34 ?_
      refine xr_if_eq (tgt := 45) X dX2_whoHinders_37 (by decide) (fun c_37 => ?_) (fun c_37 => ?_)
      · have c_37 := xb_0.mp c_37
        
        refine xr_iinc (v := nI (p + 1)) (lv' := [(3, .int (nI (p + 1))), (4, .int (nI (2 ^ p))), (2, .int (nI (osum (cuP kd wh mn np b 0) p))), (0, .ref (e + 20)), (1, .ref w)]) X 1 dX2_whoHinders_45 rfl (nI_1 _) rfl rfl ?_
        refine xr_goto (tgt := 4) X dX2_whoHinders_48 (by decide) ?_
        refine xr_locs (lv' := [(3, .int (nI (p + 1))), (2, .int (nI (osum (cuP kd wh mn np b 0) p))), (0, .ref (e + 20)), (1, .ref w)]) [0, 2, 3, 4] rfl ?_
        refine xr_lve (lv' := [(3, .int (nI (p + 1))), (2, .int (nI (osum (cuP kd wh mn np b 0) (p + 1)))), (0, .ref (e + 20)), (1, .ref w)]) (by rw [osum, if_neg (by have hcu : cuP kd wh mn np b 0 p = false := (by rw [cuP, if_pos rfl, exL_0 h6 (by omega)]; simp [saB, c_26, c_37]); rw [hcu]; decide)]; rfl) ?_
        exact ih (p + 1) (by omega)
      · have c_37 := xb_1.mp c_37
        have hcu : cuP kd wh mn np b 0 p = true := (by rw [cuP, if_pos rfl, exL_0 h6 (by omega)]; simp [saB, c_26, c_37])
        refine xr_iload_n X 2 dX2_whoHinders_40 rfl rfl ?_
        refine xr_iload X 0 dX2_whoHinders_41 rfl ?_
        refine xr_ior X dX2_whoHinders_43 ?_
        refine xr_top (y := (nI (osum (cuP kd wh mn np b 0) (p + 1)))) (by rw [osum, if_pos hcu, ← pw6 p (by omega)]; exact or_p p (by omega) _ (osum_lt _ _)) ?_
        refine xr_istore_n (lv' := [(2, .int (nI (osum (cuP kd wh mn np b 0) (p + 1)))), (4, .int (nI (2 ^ p))), (3, .int (nI p)), (0, .ref (e + 20)), (1, .ref w)]) X dX2_whoHinders_44 rfl rfl rfl ?_
        
        refine xr_iinc (v := nI (p + 1)) (lv' := [(3, .int (nI (p + 1))), (2, .int (nI (osum (cuP kd wh mn np b 0) (p + 1)))), (4, .int (nI (2 ^ p))), (0, .ref (e + 20)), (1, .ref w)]) X 2 dX2_whoHinders_45 rfl (nI_1 _) rfl rfl ?_
        refine xr_goto (tgt := 4) X dX2_whoHinders_48 (by decide) ?_
        refine xr_locs (lv' := [(3, .int (nI (p + 1))), (2, .int (nI (osum (cuP kd wh mn np b 0) (p + 1)))), (0, .ref (e + 20)), (1, .ref w)]) [0, 1, 3, 4] rfl ?_
        exact ih (p + 1) (by omega)
set_option maxRecDepth 100000 in
theorem c_X2_whoHinders {l : Launch} {Ω : xW} {h : xH} {sz : Nat} {w np day b : Nat} {kd wh mn : Nat → Nat} {fr : Nat → Int32} {e : Nat} (hfo : h (e + 20) = some (.inr (2, [.ref (e + 21)]))) (hto : h w = some (tO w (nI np) (nI day) (nI b) (nI (moM kd np)))) (htf : h (w + 2) = some (.inl (.int, 64, .inl fr))) (h6 : np ≤ 6) (hF : frOK fr kd wh mn np) (hb : b < 2 ^ np) : xC l Ω yX2_whoHinders cX2_whoHinders 5 (some .int) 5 0 0 [.ref (e + 20), .ref w] h sz (some (.int (nI (osum (cuP kd wh mn np b 0) np)))) h (sz) := by
  refine xC_of (lv := [(0, .ref (e + 20)), (1, .ref w)]) pn_X2 rfl rfl (fun Γ X hΓ hbs => ?_)
  have X : xX Γ Ω cX2_whoHinders 5 RX2 "whoHinders" (some .int) 5 175 0 0 := X
  subst hΓ
  refine xr_iconst (v := 0) X dX2_whoHinders_0 (by decide) ?_
  refine xr_istore_n (lv' := [(2, .int 0), (0, .ref (e + 20)), (1, .ref w)]) X dX2_whoHinders_1 rfl rfl rfl ?_
  refine xr_iconst (v := 0) X dX2_whoHinders_2 (by decide) ?_
  refine xr_istore_n (lv' := [(3, .int 0), (2, .int 0), (0, .ref (e + 20)), (1, .ref w)]) X dX2_whoHinders_3 rfl rfl rfl ?_
  refine xr_locs (lv' := [(3, .int 0), (2, .int 0), (0, .ref (e + 20)), (1, .ref w)]) [0, 1, 2, 3] rfl ?_
  exact l_X2_whoHinders X hfo hto htf h6 hF hb np 0 (by omega)
set_option maxRecDepth 100000 in
theorem l_X2_whoCouldStop {Γ : xΓ} {Ω : xW} {h : xH} {sz : Nat} (X : xX Γ Ω cX2_whoCouldStop 5 RX2 "whoCouldStop" (some .int) 5 175 0 0) {w np day b : Nat} {kd wh mn : Nat → Nat} {fr : Nat → Int32} {e : Nat} (hfo : h (e + 20) = some (.inr (2, [.ref (e + 21)]))) (hto : h w = some (tO w (nI np) (nI day) (nI b) (nI (moM kd np)))) (htf : h (w + 2) = some (.inl (.int, 64, .inl fr))) (h6 : np ≤ 6) (hF : frOK fr kd wh mn np) (hb : b < 2 ^ np) : ∀ (j0 p : Nat), p + j0 = np → xG Γ Ω 5 (xQ Γ Ω (some (.int (nI (osum (cuP kd wh mn np b 1) np)))) h (sz) 0 0) 4 [(3, .int (nI p)), (2, .int (nI (osum (cuP kd wh mn np b 1) p))), (0, .ref (e + 20)), (1, .ref w)] ([]) h sz 0 0 := by
  intro j0
  induction j0 with
  | zero =>
    intro p hk
    have ek : p = np := by omega
    refine xr_iload_n X 0 dX2_whoCouldStop_4 rfl rfl ?_
    refine xr_aload_n X 3 dX2_whoCouldStop_5 rfl rfl ?_
    refine xr_callV X hto rfl kw_696 kw_544 kw_545 cw_X8_size [] (c_X8_size hto) rfl rfl rfl rfl rfl rfl rfl dX2_whoCouldStop_6 ?_
    refine xr_icmp_ge (tgt := 51) X dX2_whoCouldStop_9 (by decide) (fun _ => ?_) (fun c_9 => absurd (by subst ek; exact i32_le.mpr (Int.le_refl _)) c_9)
    refine xr_iload_n X 1 dX2_whoCouldStop_51 rfl rfl ?_
    exact xr_iret X rfl (by rw [ek]) rfl rfl rfl rfl dX2_whoCouldStop_52
  | succ j0 ih =>
    intro p hk
    have lk : p < np := by omega
    have h64 := pw_le h6
    have hp64 : 2 ^ p < 64 := Nat.pow_lt_pow_right (m := p) (n := 6) (by omega) (by omega)
    refine xr_iload_n X 0 dX2_whoCouldStop_4 rfl rfl ?_
    refine xr_aload_n X 3 dX2_whoCouldStop_5 rfl rfl ?_
    refine xr_callV X hto rfl kw_696 kw_544 kw_545 cw_X8_size [] (c_X8_size hto) rfl rfl rfl rfl rfl rfl rfl dX2_whoCouldStop_6 ?_
    refine xr_icmp_ge (tgt := 51) X dX2_whoCouldStop_9 (by decide) (fun c_9 => absurd c_9 (by rw [i32_le, nI_toInt (by omega), nI_toInt (by omega)]; omega)) (fun _ => ?_)
    refine xr_iconst (v := 1) X dX2_whoCouldStop_12 (by decide) ?_
    refine xr_iload_n X 0 dX2_whoCouldStop_13 rfl rfl ?_
    refine xr_ishl X dX2_whoCouldStop_14 ?_
    refine xr_top (y := (nI (2 ^ p))) (pw6 p (by omega)) ?_
    refine xr_istore (lv' := [(4, .int (nI (2 ^ p))), (3, .int (nI p)), (2, .int (nI (osum (cuP kd wh mn np b 1) p))), (0, .ref (e + 20)), (1, .ref w)]) X dX2_whoCouldStop_15 rfl rfl ?_
    refine xr_aload_n X 3 dX2_whoCouldStop_17 rfl rfl ?_
    refine xr_aload_n X 4 dX2_whoCouldStop_18 rfl rfl ?_
    refine xr_iload X 0 dX2_whoCouldStop_19 rfl ?_
    refine xr_iload X 0 dX2_whoCouldStop_21 rfl ?_
    refine xr_callV X hfo rfl kw_697 kw_699 kw_16 cw_X2_someAgrees [.ref w, .int (nI (2 ^ p)), .int (nI (2 ^ p))] (c_X2_someAgrees (i := p) (o := (2 ^ p)) hfo hto htf h6 hF hb (by omega) (by omega)) rfl rfl rfl rfl rfl rfl rfl dX2_whoCouldStop_23 ?_
    refine xr_if_eq (tgt := 40) X dX2_whoCouldStop_26 (by decide) (fun c_26 => ?_) (fun c_26 => ?_)
    · have c_26 := xb_0.mp c_26
      have hcu : cuP kd wh mn np b 1 p = true := (by rw [cuP, if_neg (by decide), exL_1 h6 (by omega), exL_2 h6 (by omega)]; simp [saB, c_26])
      refine xr_iload_n X 2 dX2_whoCouldStop_40 rfl rfl ?_
      refine xr_iload X 0 dX2_whoCouldStop_41 rfl ?_
      refine xr_ior X dX2_whoCouldStop_43 ?_
      refine xr_top (y := (nI (osum (cuP kd wh mn np b 1) (p + 1)))) (by rw [osum, if_pos hcu, ← pw6 p (by omega)]; exact or_p p (by omega) _ (osum_lt _ _)) ?_
      refine xr_istore_n (lv' := [(2, .int (nI (osum (cuP kd wh mn np b 1) (p + 1)))), (4, .int (nI (2 ^ p))), (3, .int (nI p)), (0, .ref (e + 20)), (1, .ref w)]) X dX2_whoCouldStop_44 rfl rfl rfl ?_
      
      refine xr_iinc (v := nI (p + 1)) (lv' := [(3, .int (nI (p + 1))), (2, .int (nI (osum (cuP kd wh mn np b 1) (p + 1)))), (4, .int (nI (2 ^ p))), (0, .ref (e + 20)), (1, .ref w)]) X 2 dX2_whoCouldStop_45 rfl (nI_1 _) rfl rfl ?_
      refine xr_goto (tgt := 4) X dX2_whoCouldStop_48 (by decide) ?_
      refine xr_locs (lv' := [(3, .int (nI (p + 1))), (2, .int (nI (osum (cuP kd wh mn np b 1) (p + 1)))), (0, .ref (e + 20)), (1, .ref w)]) [0, 1, 3, 4] rfl ?_
      exact ih (p + 1) (by omega)
    · have c_26 := xb_1.mp c_26
      refine xr_aload_n X 3 dX2_whoCouldStop_29 rfl rfl ?_
      refine xr_aload_n X 4 dX2_whoCouldStop_30 rfl rfl ?_
      refine xr_iload X 0 dX2_whoCouldStop_31 rfl ?_
      refine xr_iconst (v := 0) X dX2_whoCouldStop_33 (by decide) ?_
      refine xr_callV X hfo rfl kw_697 kw_699 kw_16 cw_X2_someAgrees [.ref w, .int (nI (2 ^ p)), .int 0] (c_X2_someAgrees (i := p) (o := 0) hfo hto htf h6 hF hb (by omega) (by omega)) rfl rfl rfl rfl rfl rfl rfl dX2_whoCouldStop_34 ?_
      refine xr_if_ne (tgt := 45) X dX2_whoCouldStop_37 (by decide) (fun c_37 => ?_) (fun c_37 => ?_)
      · have c_37 := xb_1.mp c_37
        
        refine xr_iinc (v := nI (p + 1)) (lv' := [(3, .int (nI (p + 1))), (4, .int (nI (2 ^ p))), (2, .int (nI (osum (cuP kd wh mn np b 1) p))), (0, .ref (e + 20)), (1, .ref w)]) X 1 dX2_whoCouldStop_45 rfl (nI_1 _) rfl rfl ?_
        refine xr_goto (tgt := 4) X dX2_whoCouldStop_48 (by decide) ?_
        refine xr_locs (lv' := [(3, .int (nI (p + 1))), (2, .int (nI (osum (cuP kd wh mn np b 1) p))), (0, .ref (e + 20)), (1, .ref w)]) [0, 2, 3, 4] rfl ?_
        refine xr_lve (lv' := [(3, .int (nI (p + 1))), (2, .int (nI (osum (cuP kd wh mn np b 1) (p + 1)))), (0, .ref (e + 20)), (1, .ref w)]) (by rw [osum, if_neg (by have hcu : cuP kd wh mn np b 1 p = false := (by rw [cuP, if_neg (by decide), exL_1 h6 (by omega), exL_2 h6 (by omega)]; simp [saB, c_26, c_37]); rw [hcu]; decide)]; rfl) ?_
        exact ih (p + 1) (by omega)
      · have c_37 := xb_0.mp c_37
        have hcu : cuP kd wh mn np b 1 p = true := (by rw [cuP, if_neg (by decide), exL_1 h6 (by omega), exL_2 h6 (by omega)]; simp [saB, c_26, c_37])
        refine xr_iload_n X 2 dX2_whoCouldStop_40 rfl rfl ?_
        refine xr_iload X 0 dX2_whoCouldStop_41 rfl ?_
        refine xr_ior X dX2_whoCouldStop_43 ?_
        refine xr_top (y := (nI (osum (cuP kd wh mn np b 1) (p + 1)))) (by rw [osum, if_pos hcu, ← pw6 p (by omega)]; exact or_p p (by omega) _ (osum_lt _ _)) ?_
        refine xr_istore_n (lv' := [(2, .int (nI (osum (cuP kd wh mn np b 1) (p + 1)))), (4, .int (nI (2 ^ p))), (3, .int (nI p)), (0, .ref (e + 20)), (1, .ref w)]) X dX2_whoCouldStop_44 rfl rfl rfl ?_
        
        refine xr_iinc (v := nI (p + 1)) (lv' := [(3, .int (nI (p + 1))), (2, .int (nI (osum (cuP kd wh mn np b 1) (p + 1)))), (4, .int (nI (2 ^ p))), (0, .ref (e + 20)), (1, .ref w)]) X 2 dX2_whoCouldStop_45 rfl (nI_1 _) rfl rfl ?_
        refine xr_goto (tgt := 4) X dX2_whoCouldStop_48 (by decide) ?_
        refine xr_locs (lv' := [(3, .int (nI (p + 1))), (2, .int (nI (osum (cuP kd wh mn np b 1) (p + 1)))), (0, .ref (e + 20)), (1, .ref w)]) [0, 1, 3, 4] rfl ?_
        exact ih (p + 1) (by omega)
set_option maxRecDepth 100000 in
theorem c_X2_whoCouldStop {l : Launch} {Ω : xW} {h : xH} {sz : Nat} {w np day b : Nat} {kd wh mn : Nat → Nat} {fr : Nat → Int32} {e : Nat} (hfo : h (e + 20) = some (.inr (2, [.ref (e + 21)]))) (hto : h w = some (tO w (nI np) (nI day) (nI b) (nI (moM kd np)))) (htf : h (w + 2) = some (.inl (.int, 64, .inl fr))) (h6 : np ≤ 6) (hF : frOK fr kd wh mn np) (hb : b < 2 ^ np) : xC l Ω yX2_whoCouldStop cX2_whoCouldStop 5 (some .int) 5 0 0 [.ref (e + 20), .ref w] h sz (some (.int (nI (osum (cuP kd wh mn np b 1) np)))) h (sz) := by
  refine xC_of (lv := [(0, .ref (e + 20)), (1, .ref w)]) pn_X2 rfl rfl (fun Γ X hΓ hbs => ?_)
  have X : xX Γ Ω cX2_whoCouldStop 5 RX2 "whoCouldStop" (some .int) 5 175 0 0 := X
  subst hΓ
  refine xr_iconst (v := 0) X dX2_whoCouldStop_0 (by decide) ?_
  refine xr_istore_n (lv' := [(2, .int 0), (0, .ref (e + 20)), (1, .ref w)]) X dX2_whoCouldStop_1 rfl rfl rfl ?_
  refine xr_iconst (v := 0) X dX2_whoCouldStop_2 (by decide) ?_
  refine xr_istore_n (lv' := [(3, .int 0), (2, .int 0), (0, .ref (e + 20)), (1, .ref w)]) X dX2_whoCouldStop_3 rfl rfl rfl ?_
  refine xr_locs (lv' := [(3, .int 0), (2, .int 0), (0, .ref (e + 20)), (1, .ref w)]) [0, 1, 2, 3] rfl ?_
  exact l_X2_whoCouldStop X hfo hto htf h6 hF hb np 0 (by omega)
