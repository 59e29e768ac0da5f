/-- the class's counts of chains, by the moody ones who did it the day before -/
def cw (kd wh mn : Nat → Nat) (np : Nat) : Nat → Nat → Nat
  | 0, _ => 1
  | d + 1, q => suB (fun l => if dn kd wh mn np l 0 ^^^ l = q then cw kd wh mn np d (l &&& moM kd np) else 0) (2 ^ np)
theorem xor_flip {a c l : Nat} : a ^^^ c = l ↔ a ^^^ l = c := by
  constructor
  · intro h; rw [← h, ← Nat.xor_assoc, Nat.xor_self, Nat.zero_xor]
  · intro h; rw [← h, ← Nat.xor_assoc, Nat.xor_self, Nat.zero_xor]
theorem cw_chN (kd wh mn : Nat → Nat) (np : Nat) : ∀ d b : Nat, cw kd wh mn np d (b &&& moM kd np) = chN kd wh mn np d b
  | 0, b => rfl
  | d + 1, b => by
    rw [cw, chN]
    refine suB_congr (fun l _ => ?_)
    rw [cw_chN kd wh mn np d l]
    unfold agr
    rw [dn_x kd wh mn np l b]
    by_cases c : dn kd wh mn np l 0 ^^^ l = b &&& moM kd np
    · rw [if_pos c, if_pos (decide_eq_true (xor_flip.mpr c))]
    · rw [if_neg c, if_neg (fun q => c (xor_flip.mp (of_decide_eq_true q)))]
/-- a row of counts, the first k letters counted in -/
def wRow (kd wh mn : Nat → Nat) (np : Nat) (f : Nat → Int32) (d k : Nat) : Nat → Int32 := fun q => if q < 64 then nI (suB (fun l => if dn kd wh mn np l 0 ^^^ l = q then cw kd wh mn np d (l &&& moM kd np) else 0) k) else f q
def rwF (kd wh mn : Nat → Nat) (np : Nat) (f : Nat → Int32) (d : Nat) : Nat → Int32 := fun q => if q < 64 then nI (cw kd wh mn np d q) else f q
theorem wRow_0 (kd wh mn : Nat → Nat) (np : Nat) (f : Nat → Int32) (d : Nat) : wRow kd wh mn np f d 0 = ffl f 0 64 := by
  funext q
  unfold wRow ffl
  rfl
theorem rwF_0 (kd wh mn : Nat → Nat) (np : Nat) (f : Nat → Int32) : rwF kd wh mn np f 0 = ffl f 1 64 := by
  funext q
  unfold rwF ffl
  rfl
theorem wRow_s {kd wh mn : Nat → Nat} {np : Nat} {f : Nat → Int32} {d k : Nat} (hm : dn kd wh mn np k 0 ^^^ k < 64) : upd (wRow kd wh mn np f d k) (dn kd wh mn np k 0 ^^^ k) (wRow kd wh mn np f d k (dn kd wh mn np k 0 ^^^ k) + nI (cw kd wh mn np d (k &&& moM kd np))) = wRow kd wh mn np f d (k + 1) := by
  funext q
  unfold upd
  by_cases h : q = dn kd wh mn np k 0 ^^^ k
  · rw [if_pos h, h]
    unfold wRow
    rw [if_pos hm, if_pos hm, suB, if_pos rfl, nI_add]
  · rw [if_neg h]
    unfold wRow
    by_cases h2 : q < 64
    · rw [if_pos h2, if_pos h2, suB, if_neg (Ne.symm h), Nat.add_zero]
    · rw [if_neg h2, if_neg h2]
theorem rwF_v {kd wh mn : Nat → Nat} {np : Nat} {f : Nat → Int32} {d c : Nat} (h6 : np ≤ 6) : rwF kd wh mn np f d (c &&& moM kd np) = nI (chN kd wh mn np d c) := by
  have h64 := pw_le h6
  have hmo := moM_lt kd np
  have hle : c &&& moM kd np ≤ moM kd np := Nat.and_le_right
  rw [rwF, if_pos (by omega), cw_chN]
/-- the cells with the first D rows of counts done -/
def wH (kd wh mn : Nat → Nat) (np : Nat) (fw : Nat → Nat → Int32) (e : Nat) (h : xH) : Nat → xH
  | 0 => h
  | D + 1 => xu (wH kd wh mn np fw e h D) (e + 22 + D) (.inl (.int, 64, .inl (rwF kd wh mn np (fw D) D)))
theorem wH_at {kd wh mn : Nat → Nat} {np : Nat} {fw : Nat → Nat → Int32} {e : Nat} {h : xH} : ∀ {D d : Nat}, d < D → wH kd wh mn np fw e h D (e + 22 + d) = some (.inl (.int, 64, .inl (rwF kd wh mn np (fw d) d)))
  | D + 1, d, hd => by
    rw [wH]
    by_cases c : d = D
    · subst c; exact xu_s _ _ _
    · exact xu_at (by omega) (wH_at (by omega))
theorem wH_out {kd wh mn : Nat → Nat} {np : Nat} {fw : Nat → Nat → Int32} {e : Nat} {h : xH} {a : Nat} {o : Option xE} : ∀ {D : Nat}, (a < e + 22 ∨ e + 22 + D ≤ a) → h a = o → wH kd wh mn np fw e h D a = o
  | 0, _, g => g
  | D + 1, hd, g => by
    rw [wH]
    exact xu_at (by omega) (wH_out (by omega) g)
set_option maxRecDepth 100000 in
theorem c_X2_waysAfter {l : Launch} {Ω : xW} {h : xH} {sz : Nat} {w np day b : Nat} {kd : Nat → Nat} {e d c : Nat} {f : Nat → Int32} (hfo : h (e + 20) = some (.inr (2, [.ref (e + 21)]))) (hto : h w = some (tO w (nI np) (nI day) (nI b) (nI (moM kd np)))) (hwo : h (e + 21) = some (.inl (.array .int, 6, .inr (.inr (.inr (.inr (xmo (e + 21) 6))))))) (hrow : h (e + 22 + d) = some (.inl (.int, 64, .inl f))) (h6 : np ≤ 6) (hd : d < 6) : xC l Ω yX2_waysAfter cX2_waysAfter 5 (some .int) 1 0 0 [.ref (e + 20), .ref w, .int (nI d), .int (nI c)] h sz (some (.int (f (c &&& moM kd np)))) h (sz) := by
  refine xC_of (lv := [(0, .ref (e + 20)), (1, .ref w), (2, .int (nI d)), (3, .int (nI c))]) pn_X2 rfl rfl (fun Γ X hΓ hbs => ?_)
  have X : xX Γ Ω cX2_waysAfter 5 RX2 "waysAfter" (some .int) 1 35 0 0 := X
  subst hΓ
  have h64 := pw_le h6
  have hmo := moM_lt kd np
  have hle : c &&& moM kd np ≤ moM kd np := Nat.and_le_right
  refine xr_aload_n X 1 dX2_waysAfter_0 rfl rfl ?_
  refine xr_iload_n X 3 dX2_waysAfter_1 rfl rfl ?_
  refine xr_callV X hto rfl kw_726 kw_582 kw_583 cw_X8_moodyAmong [.int (nI c)] (c_X8_moodyAmong hto) rfl rfl rfl rfl rfl rfl rfl dX2_waysAfter_2 ?_
  refine xr_istore (lv' := [(4, .int (nI (c &&& moM kd np))), (0, .ref (e + 20)), (1, .ref w), (2, .int (nI d)), (3, .int (nI c))]) X dX2_waysAfter_5 rfl rfl ?_
  refine xr_iload_n X 3 dX2_waysAfter_7 rfl rfl ?_
  refine xr_if_lt (tgt := 32) X dX2_waysAfter_8 (by decide) (fun c_8 => absurd c_8 (nI_pos (by omega))) (fun _ => ?_)
  refine xr_iload_n X 3 dX2_waysAfter_11 rfl rfl ?_
  refine xr_aload_n X 1 dX2_waysAfter_12 rfl rfl ?_
  refine xr_get X fF_X2_11_2 hfo rfl dX2_waysAfter_13 ?_
  refine xr_alen (v := 6) X hwo (show nI 6 = 6 by decide) dX2_waysAfter_16 ?_
  refine xr_icmp_ge (tgt := 32) X dX2_waysAfter_17 (by decide) (fun c_17 => absurd c_17 (by rw [i32_le, k32_6, nI_toInt (by omega)]; omega)) (fun _ => ?_)
  refine xr_iload X 0 dX2_waysAfter_20 rfl ?_
  refine xr_if_lt (tgt := 32) X dX2_waysAfter_22 (by decide) (fun c_22 => absurd c_22 (nI_pos (by omega))) (fun _ => ?_)
  refine xr_iload X 0 dX2_waysAfter_25 rfl ?_
  refine xr_bipush (v := 64) X dX2_waysAfter_27 (by decide) ?_
  refine xr_icmp_lt (tgt := 34) X dX2_waysAfter_29 (by decide) (fun _ => ?_) (fun c_29 => absurd (by rw [i32_lt, k32_64, nI_toInt (by omega)]; omega) c_29)
  refine xr_aload_n X 1 dX2_waysAfter_34 rfl rfl ?_
  refine xr_get X fF_X2_11_2 hfo rfl dX2_waysAfter_35 ?_
  refine xr_iload_n X 3 dX2_waysAfter_38 rfl rfl ?_
  refine xr_aald (j := d) (v := .ref (e + 22 + d)) X hwo rfl (xI_n (by omega) (by omega)) (xmo_at (by omega)) dX2_waysAfter_39 ?_
  refine xr_iload X 0 dX2_waysAfter_40 rfl ?_
  refine xr_iald (j := (c &&& moM kd np)) X hrow (xI_n (by omega) (by omega)) dX2_waysAfter_42 ?_
  exact xr_iret X rfl rfl rfl rfl rfl rfl dX2_waysAfter_43
set_option maxRecDepth 100000 in
theorem l_X2_lg {Γ : xΓ} {Ω : xW} {h : xH} {sz : Nat} (X : xX Γ Ω cX2_leastThatGoesOn 5 RX2 "leastThatGoesOn" (some .int) 3 105 0 0) {w np day b : Nat} {kd wh mn : Nat → Nat} {fr : Nat → Int32} {e d c : Nat} {f : Nat → Int32} (hfo : h (e + 20) = some (.inr (2, [.ref (e + 21)]))) (hto : h w = some (tO w (nI np) (nI day) (nI b) (nI (moM kd np)))) (htf : h (w + 2) = some (.inl (.int, 64, .inl fr))) (h6 : np ≤ 6) (hF : frOK fr kd wh mn np) (hwo : h (e + 21) = some (.inl (.array .int, 6, .inr (.inr (.inr (.inr (xmo (e + 21) 6))))))) (hrow : h (e + 22 + d) = some (.inl (.int, 64, .inl (rwF kd wh mn np f d)))) (hd : d < 6) (hd5 : d ≤ 5) : ∀ (j0 k : Nat), k + j0 = 2 ^ np → (∀ q, q < k → (fun l => agr kd wh mn np c l && decide (0 < chN kd wh mn np d l)) q = false) → xG Γ Ω 5 (xQ Γ Ω (some (.int (oN (fstB (fun l => agr kd wh mn np c l && decide (0 < chN kd wh mn np d l)) (2 ^ np))))) h (sz) 0 0) 3 [(4, .int (nI k)), (0, .ref (e + 20)), (1, .ref w), (2, .int (nI c)), (3, .int (nI d))] ([]) h sz 0 0 := by
  intro j0
  induction j0 with
  | zero =>
    intro k hk hinv
    have ek : k = 2 ^ np := by omega
    have h64 := pw_le h6
    refine xr_iload X 0 dX2_leastThatGoesOn_3 rfl ?_
    refine xr_aload_n X 2 dX2_leastThatGoesOn_5 rfl rfl ?_
    refine xr_callV X hto rfl kw_666 kw_509 kw_510 cw_X8_letters [] (c_X8_letters hto h6) rfl rfl rfl rfl rfl rfl rfl dX2_leastThatGoesOn_6 ?_
    refine xr_icmp_ge (tgt := 42) X dX2_leastThatGoesOn_9 (by decide) (fun _ => ?_) (fun c_9 => absurd (by subst ek; exact i32_le.mpr (Int.le_refl _)) c_9)
    refine xr_ldc (v := (-1000000)) X kw_678 dX2_leastThatGoesOn_42 ?_
    exact xr_iret X rfl (by rw [fstB_none (fun q hq => hinv q (by omega))]; rfl) rfl rfl rfl rfl dX2_leastThatGoesOn_44
  | succ j0 ih =>
    intro k hk hinv
    have lk : k < 2 ^ np := by omega
    have h64 := pw_le h6
    have cl := chN_lt (kd := kd) (wh := wh) (mn := mn) h6 hd5 k
    refine xr_iload X 0 dX2_leastThatGoesOn_3 rfl ?_
    refine xr_aload_n X 2 dX2_leastThatGoesOn_5 rfl rfl ?_
    refine xr_callV X hto rfl kw_666 kw_509 kw_510 cw_X8_letters [] (c_X8_letters hto h6) rfl rfl rfl rfl rfl rfl rfl dX2_leastThatGoesOn_6 ?_
    refine xr_icmp_ge (tgt := 42) X dX2_leastThatGoesOn_9 (by decide) (fun c_9 => absurd c_9 (by rw [i32_le, nI_toInt (by omega), nI_toInt (by omega)]; omega)) (fun _ => ?_)
    refine xr_aload_n X 2 dX2_leastThatGoesOn_12 rfl rfl ?_
    refine xr_iload X 0 dX2_leastThatGoesOn_13 rfl ?_
    refine xr_iload_n X 3 dX2_leastThatGoesOn_15 rfl rfl ?_
    refine xr_callV X hto rfl kw_736 kw_573 kw_574 cw_X8_agreesAfter [.int (nI k), .int (nI c)] (c_X8_agreesAfter hto htf h6 hF (by omega)) rfl rfl rfl rfl rfl rfl rfl dX2_leastThatGoesOn_16 ?_
    refine xr_if_eq (tgt := 36) X dX2_leastThatGoesOn_19 (by decide) (fun c_19 => ?_) (fun c_19 => ?_)
    · have c_19 := xb_0.mp c_19
      refine xr_iinc (v := nI (k + 1)) (lv' := [(4, .int (nI (k + 1))), (0, .ref (e + 20)), (1, .ref w), (2, .int (nI c)), (3, .int (nI d))]) X 0 dX2_leastThatGoesOn_36 rfl (nI_1 _) rfl rfl ?_
      refine xr_goto (tgt := 3) X dX2_leastThatGoesOn_39 (by decide) ?_
      exact ih (k + 1) (by omega) (inv_s hinv (by simp only [c_19, Bool.false_and]))
    · have c_19 := xb_1.mp c_19
      refine xr_aload_n X 1 dX2_leastThatGoesOn_22 rfl rfl ?_
      refine xr_aload_n X 2 dX2_leastThatGoesOn_23 rfl rfl ?_
      refine xr_iload_n X 4 dX2_leastThatGoesOn_24 rfl rfl ?_
      refine xr_iload X 0 dX2_leastThatGoesOn_25 rfl ?_
      refine xr_callV X hfo rfl kw_722 kw_724 kw_18 cw_X2_waysAfter [.ref w, .int (nI d), .int (nI k)] (c_X2_waysAfter (c := k) hfo hto hwo hrow h6 (by omega)) rfl rfl rfl rfl rfl rfl rfl dX2_leastThatGoesOn_27 ?_
      refine xr_top (y := (nI (chN kd wh mn np d k))) (rwF_v h6) ?_
      refine xr_if_le (tgt := 36) X dX2_leastThatGoesOn_30 (by decide) (fun c_30 => ?_) (fun c_30 => ?_)
      · have c_30 := i32_le.mp c_30
        (try simp (disch := omega) only [nI_toInt, i32_add, i32_sub, i32_mul, i64_addl, i32_l, k32_0, k64_0] at c_30)
        refine xr_iinc (v := nI (k + 1)) (lv' := [(4, .int (nI (k + 1))), (0, .ref (e + 20)), (1, .ref w), (2, .int (nI c)), (3, .int (nI d))]) X 0 dX2_leastThatGoesOn_36 rfl (nI_1 _) rfl rfl ?_
        refine xr_goto (tgt := 3) X dX2_leastThatGoesOn_39 (by decide) ?_
        exact ih (k + 1) (by omega) (inv_s hinv (by simp only [c_19, Bool.true_and]; exact decide_eq_false (by omega)))
      · have c_30 := mt i32_le.mpr c_30
        (try simp (disch := omega) only [nI_toInt, i32_add, i32_sub, i32_mul, i64_addl, i32_l, k32_0, k64_0] at c_30)
        refine xr_iload X 0 dX2_leastThatGoesOn_33 rfl ?_
        exact xr_iret X rfl (by rw [fstB_some (show (fun l => agr kd wh mn np c l && decide (0 < chN kd wh mn np d l)) k = true by simp only [c_19, Bool.true_and]; exact decide_eq_true (by omega)) hinv lk]; rfl) rfl rfl rfl rfl dX2_leastThatGoesOn_35
set_option maxRecDepth 100000 in
theorem c_X2_leastThatGoesOn {l : Launch} {Ω : xW} {h : xH} {sz : Nat} {w np day b : Nat} {kd wh mn : Nat → Nat} {fr : Nat → Int32} {e d c : Nat} {f : Nat → Int32} (hfo : h (e + 20) = some (.inr (2, [.ref (e + 21)]))) (hto : h w = some (tO w (nI np) (nI day) (nI b) (nI (moM kd np)))) (htf : h (w + 2) = some (.inl (.int, 64, .inl fr))) (h6 : np ≤ 6) (hF : frOK fr kd wh mn np) (hwo : h (e + 21) = some (.inl (.array .int, 6, .inr (.inr (.inr (.inr (xmo (e + 21) 6))))))) (hrow : h (e + 22 + d) = some (.inl (.int, 64, .inl (rwF kd wh mn np f d)))) (hd : d < 6) : xC l Ω yX2_leastThatGoesOn cX2_leastThatGoesOn 5 (some .int) 3 0 0 [.ref (e + 20), .ref w, .int (nI c), .int (nI d)] h sz (some (.int (oN (fstB (fun l => agr kd wh mn np c l && decide (0 < chN kd wh mn np d l)) (2 ^ np))))) h (sz) := by
  refine xC_of (lv := [(0, .ref (e + 20)), (1, .ref w), (2, .int (nI c)), (3, .int (nI d))]) pn_X2 rfl rfl (fun Γ X hΓ hbs => ?_)
  have X : xX Γ Ω cX2_leastThatGoesOn 5 RX2 "leastThatGoesOn" (some .int) 3 105 0 0 := X
  subst hΓ
  refine xr_iconst (v := 0) X dX2_leastThatGoesOn_0 (by decide) ?_
  refine xr_istore (lv' := [(4, .int 0), (0, .ref (e + 20)), (1, .ref w), (2, .int (nI c)), (3, .int (nI d))]) X dX2_leastThatGoesOn_1 rfl rfl ?_
  exact l_X2_lg X hfo hto htf h6 hF hwo hrow hd (by omega) (2 ^ np) 0 (by omega) (fun q hq => by omega)
theorem fcl_at {kd wh mn : Nat → Nat} {np b n d k : Nat} (h2 : k < 2 ^ np) (h3 : fcQ kd wh mn np (fcl kd wh mn np b n d) n d k = true) (h4 : ∀ q, q < k → fcQ kd wh mn np (fcl kd wh mn np b n d) n d q = false) : fstB (fun l => agr kd wh mn np (fcl kd wh mn np b n d) l && decide (0 < chN kd wh mn np (n - d - 1) l)) (2 ^ np) = some k := fstB_some h3 h4 h2
set_option maxRecDepth 100000 in
theorem l_X2_fc {Γ : xΓ} {Ω : xW} {h : xH} {sz : Nat} (X : xX Γ Ω cX2_letterOfFirstChain 6 RX2 "letterOfFirstChain" (some .int) 4 140 0 0) {w np day b : Nat} {kd wh mn : Nat → Nat} {fr : Nat → Int32} {e n k : Nat} {fw : Nat → Nat → Int32} (hfo : h (e + 20) = some (.inr (2, [.ref (e + 21)]))) (hto : h w = some (tO w (nI np) (nI day) (nI b) (nI (moM kd np)))) (htf : h (w + 2) = some (.inl (.int, 64, .inl fr))) (h6 : np ≤ 6) (hF : frOK fr kd wh mn np) (hwo : h (e + 21) = some (.inl (.array .int, 6, .inr (.inr (.inr (.inr (xmo (e + 21) 6))))))) (hin : ∀ d, d < n → h (e + 22 + d) = some (.inl (.int, 64, .inl (rwF kd wh mn np (fw d) d)))) (hb : b < 2 ^ np) (hn5 : n ≤ 5) (hkn : k < n) (hch : 0 < chN kd wh mn np n b) : ∀ (j0 j : Nat) (x : Int32), j + j0 = k + 1 → x.toInt = (n : Int) - 1 - j → (0 < chN kd wh mn np (n - j) (fcl kd wh mn np b n j) ∧ fcl kd wh mn np b n j < 2 ^ np) → xG Γ Ω 6 (xQ Γ Ω (some (.int (nI (fcl kd wh mn np b n (k + 1))))) h (sz) 0 0) 11 [(5, .int x), (4, .int (nI (fcl kd wh mn np b n j))), (0, .ref (e + 20)), (1, .ref w), (2, .int (nI n)), (3, .int (nI k))] ([]) h sz 0 0 := by
  intro j0
  induction j0 with
  | zero =>
    intro j x hk hx hinv
    have ek : j = k + 1 := by omega
    have h64 := pw_le h6
    refine xr_iload X 0 dX2_letterOfFirstChain_11 rfl ?_
    refine xr_iload_n X 4 dX2_letterOfFirstChain_13 rfl rfl ?_
    refine xr_iconst (v := 1) X dX2_letterOfFirstChain_14 (by decide) ?_
    refine xr_isub X dX2_letterOfFirstChain_15 ?_
    refine xr_iload_n X 5 dX2_letterOfFirstChain_16 rfl rfl ?_
    refine xr_isub X dX2_letterOfFirstChain_17 ?_
    refine xr_icmp_lt (tgt := 53) X dX2_letterOfFirstChain_18 (by decide) (fun _ => ?_) (fun c_18 => absurd (by rw [i32_lt, hx, show nI n - 1 = nI (n - 1) from pk_sub (b := 1) (by omega), pk_sub (by omega), nI_toInt (by omega)]; omega) c_18)
    refine xr_iload X 1 dX2_letterOfFirstChain_53 rfl ?_
    exact xr_iret X rfl (by rw [ek]) rfl rfl rfl rfl dX2_letterOfFirstChain_55
  | succ j0 ih =>
    intro j x hk hx hinv
    have lk : j < k + 1 := by omega
    have h64 := pw_le h6
    obtain ⟨g0, g1, g2, g3, g4, g5⟩ := fcl_step (show j < n by omega) hinv.1
    have g1x : g0 < 2 ^ np := g2
    have gfc := fcl_at (kd := kd) (wh := wh) (mn := mn) (np := np) (b := b) (n := n) (d := j) g2 g3 g4
    have hq1 : fstB (fun l => agr kd wh mn np (fcl kd wh mn np b n j) l && decide (0 < chN kd wh mn np (n - 1 - j) l)) (2 ^ np) = some (fcl kd wh mn np b n (j + 1)) := by rw [show n - 1 - j = n - j - 1 by omega, g1]; exact gfc
    have hfl : fcl kd wh mn np b n (j + 1) < 64 := by rw [g1]; omega
    refine xr_iload X 0 dX2_letterOfFirstChain_11 rfl ?_
    refine xr_iload_n X 4 dX2_letterOfFirstChain_13 rfl rfl ?_
    refine xr_iconst (v := 1) X dX2_letterOfFirstChain_14 (by decide) ?_
    refine xr_isub X dX2_letterOfFirstChain_15 ?_
    refine xr_iload_n X 5 dX2_letterOfFirstChain_16 rfl rfl ?_
    refine xr_isub X dX2_letterOfFirstChain_17 ?_
    refine xr_icmp_lt (tgt := 53) X dX2_letterOfFirstChain_18 (by decide) (fun c_18 => absurd c_18 (by rw [i32_lt, hx, show nI n - 1 = nI (n - 1) from pk_sub (b := 1) (by omega), pk_sub (by omega), nI_toInt (by omega)]; omega)) (fun _ => ?_)
    refine xr_iload X 0 dX2_letterOfFirstChain_21 rfl ?_
    refine xr_if_lt (tgt := 53) X dX2_letterOfFirstChain_23 (by decide) (fun c_23 => absurd c_23 (by rw [i32_lt, hx, k32_0]; omega)) (fun _ => ?_)
    refine xr_aload_n X 2 dX2_letterOfFirstChain_26 rfl rfl ?_
    refine xr_aload_n X 3 dX2_letterOfFirstChain_27 rfl rfl ?_
    refine xr_iload X 1 dX2_letterOfFirstChain_28 rfl ?_
    refine xr_iload X 0 dX2_letterOfFirstChain_30 rfl ?_
    refine xr_top (y := (nI (n - 1 - j))) (by rw [i32_eq, hx, nI_toInt (by omega)]; omega) ?_
    refine xr_callV X hfo rfl kw_732 kw_734 kw_19 cw_X2_leastThatGoesOn [.ref w, .int (nI (fcl kd wh mn np b n j)), .int (nI (n - 1 - j))] (c_X2_leastThatGoesOn (c := fcl kd wh mn np b n j) (d := n - 1 - j) hfo hto htf h6 hF hwo (hin (n - 1 - j) (by omega)) (by omega)) rfl rfl rfl rfl rfl rfl rfl dX2_letterOfFirstChain_32 ?_
    refine xr_top (y := (nI (fcl kd wh mn np b n (j + 1)))) (by rw [hq1]; rfl) ?_
    refine xr_istore (lv' := [(4, .int (nI (fcl kd wh mn np b n (j + 1)))), (5, .int x), (0, .ref (e + 20)), (1, .ref w), (2, .int (nI n)), (3, .int (nI k))]) X dX2_letterOfFirstChain_35 rfl rfl ?_
    refine xr_iload X 0 dX2_letterOfFirstChain_37 rfl ?_
    refine xr_ldc (v := (-1000000)) X kw_678 dX2_letterOfFirstChain_39 ?_
    refine xr_icmp_ne (tgt := 47) X dX2_letterOfFirstChain_41 (by decide) (fun _ => ?_) (fun c_41 => absurd c_41 (by rw [i32_eq, nI_toInt (by omega), k32_m1000000]; omega))
    refine xr_iinc (v := x + (-1)) (lv' := [(5, .int (x + (-1))), (4, .int (nI (fcl kd wh mn np b n (j + 1)))), (0, .ref (e + 20)), (1, .ref w), (2, .int (nI n)), (3, .int (nI k))]) X 1 dX2_letterOfFirstChain_47 rfl rfl rfl rfl ?_
    refine xr_goto (tgt := 11) X dX2_letterOfFirstChain_50 (by decide) ?_
    exact ih (j + 1) (x + (-1)) (by omega) (by rw [i32_add (by rw [k32_m1]; omega) (by rw [k32_m1]; omega), k32_m1]; omega) ⟨by rw [g1]; exact g5, by rw [g1]; exact g2⟩
set_option maxRecDepth 100000 in
theorem c_X2_letterOfFirstChain {l : Launch} {Ω : xW} {h : xH} {sz : Nat} {w np day b : Nat} {kd wh mn : Nat → Nat} {fr : Nat → Int32} {e n k : Nat} {fw : Nat → Nat → Int32} (hfo : h (e + 20) = some (.inr (2, [.ref (e + 21)]))) (hto : h w = some (tO w (nI np) (nI day) (nI b) (nI (moM kd np)))) (htf : h (w + 2) = some (.inl (.int, 64, .inl fr))) (h6 : np ≤ 6) (hF : frOK fr kd wh mn np) (hwo : h (e + 21) = some (.inl (.array .int, 6, .inr (.inr (.inr (.inr (xmo (e + 21) 6))))))) (hin : ∀ d, d < n → h (e + 22 + d) = some (.inl (.int, 64, .inl (rwF kd wh mn np (fw d) d)))) (hb : b < 2 ^ np) (hn5 : n ≤ 5) (hkn : k < n) (hch : 0 < chN kd wh mn np n b) : xC l Ω yX2_letterOfFirstChain cX2_letterOfFirstChain 6 (some .int) 4 0 0 [.ref (e + 20), .ref w, .int (nI n), .int (nI k)] h sz (some (.int (nI (fcl kd wh mn np b n (k + 1))))) h (sz) := by
  refine xC_of (lv := [(0, .ref (e + 20)), (1, .ref w), (2, .int (nI n)), (3, .int (nI k))]) pn_X2 rfl rfl (fun Γ X hΓ hbs => ?_)
  have X : xX Γ Ω cX2_letterOfFirstChain 6 RX2 "letterOfFirstChain" (some .int) 4 140 0 0 := X
  subst hΓ
  refine xr_aload_n X 1 dX2_letterOfFirstChain_0 rfl rfl ?_
  refine xr_callV X hto rfl kw_671 kw_595 kw_596 cw_X8_before [] (c_X8_before hto) rfl rfl rfl rfl rfl rfl rfl dX2_letterOfFirstChain_1 ?_
  refine xr_istore (lv' := [(4, .int (nI b)), (0, .ref (e + 20)), (1, .ref w), (2, .int (nI n)), (3, .int (nI k))]) X dX2_letterOfFirstChain_4 rfl rfl ?_
  refine xr_iload_n X 3 dX2_letterOfFirstChain_6 rfl rfl ?_
  refine xr_iconst (v := 1) X dX2_letterOfFirstChain_7 (by decide) ?_
  refine xr_isub X dX2_letterOfFirstChain_8 ?_
  refine xr_istore (lv' := [(5, .int ((nI n) - 1)), (4, .int (nI b)), (0, .ref (e + 20)), (1, .ref w), (2, .int (nI n)), (3, .int (nI k))]) X dX2_letterOfFirstChain_9 rfl rfl ?_
  refine xr_locs (lv' := [(5, .int ((nI n) - 1)), (4, .int (nI b)), (0, .ref (e + 20)), (1, .ref w), (2, .int (nI n)), (3, .int (nI k))]) [0, 1, 2, 3, 4, 5] rfl ?_
  exact l_X2_fc X hfo hto htf h6 hF hwo hin hb hn5 hkn hch (k + 1) 0 _ (by omega) (by rw [show nI n - 1 = nI (n - 1) from pk_sub (b := 1) (by omega), nI_toInt (by omega)]; omega) ⟨hch, hb⟩
set_option maxRecDepth 100000 in
theorem l_X2_ccI {Γ : xΓ} {Ω : xW} {h : xH} {sz : Nat} (X : xX Γ Ω cX2_countChains 6 RX2 "countChains" (some .int) 4 140 0 0) {w np day b : Nat} {kd wh mn : Nat → Nat} {fr : Nat → Int32} {e n : Nat} {fw : Nat → Nat → Int32} {D : Nat} {Q : State → Prop} (hfo : h (e + 20) = some (.inr (2, [.ref (e + 21)]))) (hto : h w = some (tO w (nI np) (nI day) (nI b) (nI (moM kd np)))) (htf : h (w + 2) = some (.inl (.int, 64, .inl fr))) (h6 : np ≤ 6) (hF : frOK fr kd wh mn np) (hwo : h (e + 21) = some (.inl (.array .int, 6, .inr (.inr (.inr (.inr (xmo (e + 21) 6))))))) (hin : ∀ d, d < 6 → h (e + 22 + d) = some (.inl (.int, 64, .inl (fw d)))) (hwe : w + 3 ≤ e + 20) (hD : D + 1 < 6) (K : xG Γ Ω 6 Q 103 [(3, .int (nI (D + 1))), (0, .ref (e + 20)), (1, .ref w), (2, .int (nI n))] [] (wH kd wh mn np fw e h ((D + 1) + 1)) sz 0 0) : ∀ (j0 k : Nat), k + j0 = 2 ^ np → xG Γ Ω 6 (Q) 46 [(4, .int (nI k)), (3, .int (nI (D + 1))), (0, .ref (e + 20)), (1, .ref w), (2, .int (nI n))] ([]) (xu (wH kd wh mn np fw e h (D + 1)) (e + 22 + (D + 1)) (.inl (.int, 64, .inl (wRow kd wh mn np (fw (D + 1)) D k)))) sz 0 0 := by
  intro j0
  induction j0 with
  | zero =>
    intro k hk
    have ek : k = 2 ^ np := by omega
    have h64 := pw_le h6
    refine xr_iload X 0 dX2_countChains_46 rfl ?_
    refine xr_aload_n X 3 dX2_countChains_48 rfl rfl ?_
    refine xr_callV X (xu_at (by omega) (wH_out (by omega) hto)) rfl kw_666 kw_509 kw_510 cw_X8_letters [] (c_X8_letters (xu_at (by omega) (wH_out (by omega) hto)) h6) rfl rfl rfl rfl rfl rfl rfl dX2_countChains_49 ?_
    refine xr_icmp_ge (tgt := 103) X dX2_countChains_52 (by decide) (fun _ => ?_) (fun c_52 => absurd (by subst ek; exact i32_le.mpr (Int.le_refl _)) c_52)
    refine xr_locs (lv' := [(3, .int (nI (D + 1))), (0, .ref (e + 20)), (1, .ref w), (2, .int (nI n))]) [1, 2, 3, 4] rfl ?_
    subst ek
    exact K
  | succ j0 ih =>
    intro k hk
    have lk : k < 2 ^ np := by omega
    have h64 := pw_le h6
    have dl0 := dn_lt kd wh mn np k 0
    have hmd : dn kd wh mn np k 0 ^^^ k < 64 := Nat.xor_lt_two_pow (n := 6) (by omega) (by omega)
    refine xr_iload X 0 dX2_countChains_46 rfl ?_
    refine xr_aload_n X 3 dX2_countChains_48 rfl rfl ?_
    refine xr_callV X (xu_at (by omega) (wH_out (by omega) hto)) rfl kw_666 kw_509 kw_510 cw_X8_letters [] (c_X8_letters (xu_at (by omega) (wH_out (by omega) hto)) h6) rfl rfl rfl rfl rfl rfl rfl dX2_countChains_49 ?_
    refine xr_icmp_ge (tgt := 103) X dX2_countChains_52 (by decide) (fun c_52 => absurd c_52 (by rw [i32_le, nI_toInt (by omega), nI_toInt (by omega)]; omega)) (fun _ => ?_)
    refine xr_aload_n X 3 dX2_countChains_55 rfl rfl ?_
    refine xr_iload X 0 dX2_countChains_56 rfl ?_
    refine xr_callV X (xu_at (by omega) (wH_out (by omega) hto)) rfl kw_718 kw_719 kw_720 cw_X8_moodOf [.int (nI k)] (c_X8_moodOf (xu_at (by omega) (wH_out (by omega) hto)) (xu_at (by omega) (wH_out (by omega) htf)) h6 hF (by omega)) rfl rfl rfl rfl rfl rfl rfl dX2_countChains_58 ?_
    refine xr_istore (lv' := [(5, .int (nI (dn kd wh mn np k 0 ^^^ k))), (4, .int (nI k)), (3, .int (nI (D + 1))), (0, .ref (e + 20)), (1, .ref w), (2, .int (nI n))]) X dX2_countChains_61 rfl rfl ?_
    refine xr_iload X 0 dX2_countChains_63 rfl ?_
    refine xr_if_lt (tgt := 97) X dX2_countChains_65 (by decide) (fun c_65 => absurd c_65 (nI_pos (by omega))) (fun _ => ?_)
    refine xr_iload X 0 dX2_countChains_68 rfl ?_
    refine xr_bipush (v := 64) X dX2_countChains_70 (by decide) ?_
    refine xr_icmp_ge (tgt := 97) X dX2_countChains_72 (by decide) (fun c_72 => absurd c_72 (by rw [i32_le, k32_64, nI_toInt (by omega)]; omega)) (fun _ => ?_)
    refine xr_aload_n X 3 dX2_countChains_75 rfl rfl ?_
    refine xr_get X fF_X2_11_2 (xu_at (by omega) (wH_out (by omega) hfo)) rfl dX2_countChains_76 ?_
    refine xr_iload_n X 2 dX2_countChains_79 rfl rfl ?_
    refine xr_aald (j := (D + 1)) (v := .ref (e + 22 + (D + 1))) X (xu_at (by omega) (wH_out (by omega) hwo)) rfl (xI_n (by omega) (by omega)) (xmo_at (by omega)) dX2_countChains_80 ?_
    refine xr_iload X 0 dX2_countChains_81 rfl ?_
    refine xr_dup2 X dX2_countChains_83 rfl rfl ?_
    refine xr_iald (j := (dn kd wh mn np k 0 ^^^ k)) X (xu_s _ _ _) (xI_n (by omega) (by omega)) dX2_countChains_84 ?_
    refine xr_aload_n X 3 dX2_countChains_85 rfl rfl ?_
    refine xr_aload_n X 4 dX2_countChains_86 rfl rfl ?_
    refine xr_iload_n X 2 dX2_countChains_87 rfl rfl ?_
    refine xr_iconst (v := 1) X dX2_countChains_88 (by decide) ?_
    refine xr_isub X dX2_countChains_89 ?_
    refine xr_top (y := (nI D)) (pk_sub (b := 1) (by omega)) ?_
    refine xr_iload X 1 dX2_countChains_90 rfl ?_
    refine xr_callV X (xu_at (by omega) (wH_out (by omega) hfo)) rfl kw_722 kw_724 kw_18 cw_X2_waysAfter [.ref w, .int (nI D), .int (nI k)] (c_X2_waysAfter (c := k) (xu_at (by omega) (wH_out (by omega) hfo)) (xu_at (by omega) (wH_out (by omega) hto)) (xu_at (by omega) (wH_out (by omega) hwo)) (xu_at (by omega) (wH_at (by omega))) h6 (by omega)) rfl rfl rfl rfl rfl rfl rfl dX2_countChains_92 ?_
    refine xr_top (y := (nI (cw kd wh mn np D (k &&& moM kd np)))) (by rw [rwF_v h6, cw_chN]) ?_
    refine xr_iadd X dX2_countChains_95 ?_
    refine xr_iast (j := (dn kd wh mn np k 0 ^^^ k)) X (xu_s _ _ _) (xI_n (by omega) (by omega)) dX2_countChains_96 ?_
    refine xr_heap (h' := (xu (wH kd wh mn np fw e h (D + 1)) (e + 22 + (D + 1)) (.inl (.int, 64, .inl (upd (wRow kd wh mn np (fw (D + 1)) D k) (dn kd wh mn np k 0 ^^^ k) (((wRow kd wh mn np (fw (D + 1)) D k) (dn kd wh mn np k 0 ^^^ k)) + (nI (cw kd wh mn np D (k &&& moM kd np))))))))) (xu_uu _ _ _ _) ?_
    refine xr_iinc (v := nI (k + 1)) (lv' := [(4, .int (nI (k + 1))), (5, .int (nI (dn kd wh mn np k 0 ^^^ k))), (3, .int (nI (D + 1))), (0, .ref (e + 20)), (1, .ref w), (2, .int (nI n))]) X 1 dX2_countChains_97 rfl (nI_1 _) rfl rfl ?_
    refine xr_goto (tgt := 46) X dX2_countChains_100 (by decide) ?_
    refine xr_locs (lv' := [(4, .int (nI (k + 1))), (3, .int (nI (D + 1))), (0, .ref (e + 20)), (1, .ref w), (2, .int (nI n))]) [0, 2, 3, 4, 5] rfl ?_
    refine xr_heap (h' := (xu (wH kd wh mn np fw e h (D + 1)) (e + 22 + (D + 1)) (.inl (.int, 64, .inl (wRow kd wh mn np (fw (D + 1)) D (k + 1)))))) (by rw [wRow_s hmd]) ?_
    exact ih (k + 1) (by omega)
set_option maxRecDepth 100000 in
theorem l_X2_cc {Γ : xΓ} {Ω : xW} {h : xH} {sz : Nat} (X : xX Γ Ω cX2_countChains 6 RX2 "countChains" (some .int) 4 140 0 0) {w np day b : Nat} {kd wh mn : Nat → Nat} {fr : Nat → Int32} {e n : Nat} {fw : Nat → Nat → Int32} (hfo : h (e + 20) = some (.inr (2, [.ref (e + 21)]))) (hto : h w = some (tO w (nI np) (nI day) (nI b) (nI (moM kd np)))) (htf : h (w + 2) = some (.inl (.int, 64, .inl fr))) (h6 : np ≤ 6) (hF : frOK fr kd wh mn np) (hwo : h (e + 21) = some (.inl (.array .int, 6, .inr (.inr (.inr (.inr (xmo (e + 21) 6))))))) (hin : ∀ d, d < 6 → h (e + 22 + d) = some (.inl (.int, 64, .inl (fw d)))) (hwe : w + 3 ≤ e + 20) (hn : n ≤ 5) (hb : b < 2 ^ np) : ∀ (j0 D : Nat), D + j0 = n → xG Γ Ω 6 (xQ Γ Ω (some (.int (nI (chN kd wh mn np n b)))) (wH kd wh mn np fw e h (n + 1)) (sz) 0 0) 28 [(3, .int (nI (D + 1))), (0, .ref (e + 20)), (1, .ref w), (2, .int (nI n))] ([]) (wH kd wh mn np fw e h (D + 1)) sz 0 0 := by
  intro j0
  induction j0 with
  | zero =>
    intro D hk
    have ek : D = n := by omega
    have h64 := pw_le h6
    refine xr_iload_n X 0 dX2_countChains_28 rfl rfl ?_
    refine xr_iload_n X 3 dX2_countChains_29 rfl rfl ?_
    refine xr_icmp_gt (tgt := 109) X dX2_countChains_30 (by decide) (fun _ => ?_) (fun c_30 => absurd (by rw [ek, i32_lt, nI_toInt (by omega), nI_toInt (by omega)]; omega) c_30)
    refine xr_aload_n X 1 dX2_countChains_109 rfl rfl ?_
    refine xr_aload_n X 2 dX2_countChains_110 rfl rfl ?_
    refine xr_iload_n X 3 dX2_countChains_111 rfl rfl ?_
    refine xr_aload_n X 2 dX2_countChains_112 rfl rfl ?_
    refine xr_callV X (wH_out (by omega) hto) rfl kw_671 kw_595 kw_596 cw_X8_before [] (c_X8_before (wH_out (by omega) hto)) rfl rfl rfl rfl rfl rfl rfl dX2_countChains_113 ?_
    refine xr_callV X (wH_out (by omega) hfo) rfl kw_722 kw_724 kw_18 cw_X2_waysAfter [.ref w, .int (nI n), .int (nI b)] (c_X2_waysAfter (d := n) (c := b) (wH_out (by omega) hfo) (wH_out (by omega) hto) (wH_out (by omega) hwo) (wH_at (by omega)) h6 (by omega)) rfl rfl rfl rfl rfl rfl rfl dX2_countChains_116 ?_
    refine xr_top (y := (nI (chN kd wh mn np n b))) (rwF_v h6) ?_
    exact xr_iret X rfl rfl (by rw [ek]) rfl rfl rfl dX2_countChains_119
  | succ j0 ih =>
    intro D hk
    have lk : D < n := by omega
    have h64 := pw_le h6
    refine xr_iload_n X 0 dX2_countChains_28 rfl rfl ?_
    refine xr_iload_n X 3 dX2_countChains_29 rfl rfl ?_
    refine xr_icmp_gt (tgt := 109) X dX2_countChains_30 (by decide) (fun c_30 => absurd c_30 (by rw [i32_lt, nI_toInt (by omega), nI_toInt (by omega)]; omega)) (fun _ => ?_)
    refine xr_aload_n X 1 dX2_countChains_33 rfl rfl ?_
    refine xr_get X fF_X2_11_2 (wH_out (by omega) hfo) rfl dX2_countChains_34 ?_
    refine xr_iload_n X 0 dX2_countChains_37 rfl rfl ?_
    refine xr_aald (j := (D + 1)) (v := .ref (e + 22 + (D + 1))) X (wH_out (by omega) hwo) rfl (xI_n (by omega) (by omega)) (xmo_at (by omega)) dX2_countChains_38 ?_
    refine xr_iconst (v := 0) X dX2_countChains_39 (by decide) ?_
    refine xr_callS X kw_717 kw_239 cw_J7_fill_53178 [.ref (e + 22 + (D + 1)), .int 0] (c_J7_fill_53178 (wH_out (by omega) (hin (D + 1) (by omega))) (by omega)) rfl rfl rfl rfl rfl rfl rfl dX2_countChains_40 ?_
    refine xr_iconst (v := 0) X dX2_countChains_43 (by decide) ?_
    refine xr_istore (lv' := [(4, .int 0), (3, .int (nI (D + 1))), (0, .ref (e + 20)), (1, .ref w), (2, .int (nI n))]) X dX2_countChains_44 rfl rfl ?_
    refine xr_locs (lv' := [(4, .int 0), (3, .int (nI (D + 1))), (0, .ref (e + 20)), (1, .ref w), (2, .int (nI n))]) [0, 1, 2, 3, 4] rfl ?_
    refine xr_heap (h' := (xu (wH kd wh mn np fw e h (D + 1)) (e + 22 + (D + 1)) (.inl (.int, 64, .inl (wRow kd wh mn np (fw (D + 1)) D 0))))) (by rw [wRow_0]) ?_
    refine l_X2_ccI X hfo hto htf h6 hF hwo hin hwe (by omega) ?_ (2 ^ np) 0 (by omega)
    refine xr_iinc (v := nI ((D + 1) + 1)) (lv' := [(3, .int (nI ((D + 1) + 1))), (0, .ref (e + 20)), (1, .ref w), (2, .int (nI n))]) X 0 dX2_countChains_103 rfl (nI_1 _) rfl rfl ?_
    refine xr_goto (tgt := 28) X dX2_countChains_106 (by decide) ?_
    exact ih (D + 1) (by omega)
set_option maxRecDepth 100000 in
theorem c_X2_countChains {l : Launch} {Ω : xW} {h : xH} {sz : Nat} {w np day b : Nat} {kd wh mn : Nat → Nat} {fr : Nat → Int32} {e n : Nat} {fw : Nat → Nat → Int32} (hfo : h (e + 20) = some (.inr (2, [.ref (e + 21)]))) (hto : h w = some (tO w (nI np) (nI day) (nI b) (nI (moM kd np)))) (htf : h (w + 2) = some (.inl (.int, 64, .inl fr))) (h6 : np ≤ 6) (hF : frOK fr kd wh mn np) (hwo : h (e + 21) = some (.inl (.array .int, 6, .inr (.inr (.inr (.inr (xmo (e + 21) 6))))))) (hin : ∀ d, d < 6 → h (e + 22 + d) = some (.inl (.int, 64, .inl (fw d)))) (hwe : w + 3 ≤ e + 20) (h1 : 1 ≤ n) (hn : n ≤ 5) (hb : b < 2 ^ np) : xC l Ω yX2_countChains cX2_countChains 6 (some .int) 4 0 0 [.ref (e + 20), .ref w, .int (nI n)] h sz (some (.int (nI (chN kd wh mn np n b)))) (wH kd wh mn np fw e h (n + 1)) (sz) := by
  refine xC_of (lv := [(0, .ref (e + 20)), (1, .ref w), (2, .int (nI n))]) pn_X2 rfl rfl (fun Γ X hΓ hbs => ?_)
  have X : xX Γ Ω cX2_countChains 6 RX2 "countChains" (some .int) 4 140 0 0 := X
  subst hΓ
  have h64 := pw_le h6
  refine xr_iload_n X 2 dX2_countChains_0 rfl rfl ?_
  refine xr_iconst (v := 1) X dX2_countChains_1 (by decide) ?_
  refine xr_icmp_lt (tgt := 14) X dX2_countChains_2 (by decide) (fun c_2 => absurd c_2 (by rw [i32_lt, k32_1, nI_toInt (by omega)]; omega)) (fun _ => ?_)
  refine xr_iload_n X 2 dX2_countChains_5 rfl rfl ?_
  refine xr_aload_n X 0 dX2_countChains_6 rfl rfl ?_
  refine xr_get X fF_X2_11_2 hfo rfl dX2_countChains_7 ?_
  refine xr_alen (v := 6) X hwo (show nI 6 = 6 by decide) dX2_countChains_10 ?_
  refine xr_icmp_lt (tgt := 16) X dX2_countChains_11 (by decide) (fun _ => ?_) (fun c_11 => absurd (by rw [i32_lt, k32_6, nI_toInt (by omega)]; omega) c_11)
  refine xr_aload_n X 0 dX2_countChains_16 rfl rfl ?_
  refine xr_get X fF_X2_11_2 hfo rfl dX2_countChains_17 ?_
  refine xr_iconst (v := 0) X dX2_countChains_20 (by decide) ?_
  refine xr_aald (j := 0) (v := .ref (e + 22 + 0)) X hwo rfl (xI_e (by decide) (by omega) (by omega)) (xmo_at (by omega)) dX2_countChains_21 ?_
  refine xr_iconst (v := 1) X dX2_countChains_22 (by decide) ?_
  refine xr_callS X kw_717 kw_239 cw_J7_fill_53178 [.ref (e + 22 + 0), .int 1] (c_J7_fill_53178 (hin 0 (by omega)) (by omega)) rfl rfl rfl rfl rfl rfl rfl dX2_countChains_23 ?_
  refine xr_iconst (v := 1) X dX2_countChains_26 (by decide) ?_
  refine xr_istore_n (lv' := [(3, .int 1), (0, .ref (e + 20)), (1, .ref w), (2, .int (nI n))]) X dX2_countChains_27 rfl rfl rfl ?_
  refine xr_locs (lv' := [(3, .int 1), (0, .ref (e + 20)), (1, .ref w), (2, .int (nI n))]) [0, 1, 2, 3] rfl ?_
  refine xr_heap (h' := (wH kd wh mn np fw e h (0 + 1))) (by rw [wH, wH, rwF_0]) ?_
  exact l_X2_cc X hfo hto htf h6 hF hwo hin hwe hn hb n 0 (by omega)
