/-- the refs of a row of people are people -/
def PE (B : Nat) (h : xH) (pf : Nat → Option Nat) : Prop := ∀ i y, i < 6 → pf i = some y → B ≤ y ∧ ∃ (ci : Nat) (fs : List Value) (r : vw_C), h y = some (.inr (ci, fs)) ∧ vwCl[ci]? = some r ∧ (r.1, "EvePost$Person") ∈ x_cast
theorem PE.put {B a : Nat} {h : xH} {e : xE} {pf : Nat → Option Nat} (g : PE B h pf) (ha : a < B) : PE B (xu h a e) pf := fun i y hi hy => by
  obtain ⟨h1, ci, fs, r, h2, h3⟩ := g i y hi hy
  exact ⟨h1, ci, fs, r, xu_at (by omega) h2, h3⟩
def cpq (pt pw : Nat → Option Nat) (k : Nat) : Nat → Option Nat := fun q => if q < k then pt q else pw q
theorem cpq_0 (pt pw : Nat → Option Nat) : cpq pt pw 0 = pw := by funext q; simp [cpq]
theorem cpq_s {pt pw : Nat → Option Nat} {k a : Nat} (h : pt k = some a) : va_up (cpq pt pw k) k (some a) = cpq pt pw (k + 1) := by
  funext q
  unfold va_up cpq
  by_cases c : q = k
  · subst c; simp [h]
  · by_cases c2 : q < k
    · simp [c, c2, show q < k + 1 by omega]
    · simp [c, c2, show ¬ q < k + 1 by omega]
theorem PWcp {B : Nat} {h : xH} {pt : Nat → Option Nat} {np : Nat} {kd wh mn : Nat → Nat} (g : PW B h pt np kd wh mn) (pw : Nat → Option Nat) : PW B h (cpq pt pw np) np kd wh mn := fun p hp => by
  obtain ⟨⟨ap, h1, h2⟩, h3⟩ := g p hp
  exact ⟨⟨ap, by unfold cpq; rw [if_pos hp]; exact h1, h2⟩, h3⟩
set_option maxRecDepth 100000 in
theorem l_X8_settle {Γ : xΓ} {Ω : xW} {h : xH} {sz : Nat} (X : xX Γ Ω cX8_settle 3 RX8 "settle" none 4 140 0 0) {e w B N : Nat} {kd wh mn : Nat → Nat} {pt pw : Nat → Option Nat} {fr : Nat → Int32} {s9 d9 b9 m9 le fa tk fi be : Int32} (hto : h w = some (tO w s9 d9 b9 m9)) (htp : h (w + 1) = some (.inl (.object "EvePost$Person", 6, .inr (.inr (.inr (.inr pw)))))) (htf : h (w + 2) = some (.inl (.int, 64, .inl fr))) (hko : h (e + 13) = some (kO e le (nI N) fa tk fi be)) (hpt : h (e + 15) = some (.inl (.object "EvePost$Person", 6, .inr (.inr (.inr (.inr pt)))))) (hP : PW B h pt N kd wh mn) (hN : N ≤ 6) (hew : e + 16 ≤ w) (hwB : w + 3 ≤ B) : ∀ (j0 p : Nat), p + j0 = N → xG Γ Ω 3 (xQ Γ Ω (none) (xu (xu (xu h w (.inr (7, [.ref (w + 1), .int (nI N), .int (0), .int (0), .ref (w + 2), .int (nI (moM kd N))]))) (w + 1) (.inl (.object "EvePost$Person", 6, .inr (.inr (.inr (.inr (cpq pt pw N))))))) (w + 2) (.inl (.int, 64, .inl (frZ kd wh mn N fr (2 ^ N))))) (sz) 0 0) 18 [(2, .int (nI p)), (0, .ref w), (1, .ref (e + 13))] ([]) (xu (xu h w (.inr (7, [.ref (w + 1), .int (nI N), .int (d9), .int (b9), .ref (w + 2), .int (m9)]))) (w + 1) (.inl (.object "EvePost$Person", 6, .inr (.inr (.inr (.inr (cpq pt pw p))))))) sz 0 0 := by
  intro j0
  induction j0 with
  | zero =>
    intro p hk
    have ek : p = N := by omega
    refine xr_iload_n X 0 dX8_settle_18 rfl rfl ?_
    refine xr_aload_n X 1 dX8_settle_19 rfl rfl ?_
    refine xr_get X fF_X8_17_7 (xu_at (xn0 _ rfl) (xu_s _ _ _)) rfl dX8_settle_20 ?_
    refine xr_icmp_ge (tgt := 43) X dX8_settle_23 (by decide) (fun _ => ?_) (fun c_23 => absurd (by subst ek; exact i32_le.mpr (Int.le_refl _)) c_23)
    rw [ek]
    refine xr_aload_n X 1 dX8_settle_43 rfl rfl ?_
    refine xr_iconst (v := 0) X dX8_settle_44 (by decide) ?_
    refine xr_put (fs' := [.ref (w + 1), .int (nI N), .int 0, .int (b9), .ref (w + 2), .int (m9)]) X (fW_X8_21_7 _) (xu_at (xn0 _ rfl) (xu_s _ _ _)) rfl rfl rfl rfl dX8_settle_45 ?_
    refine xr_heap (h' := (xu (xu h w (.inr (7, [.ref (w + 1), .int (nI N), .int 0, .int (b9), .ref (w + 2), .int (m9)]))) (w + 1) (.inl (.object "EvePost$Person", 6, .inr (.inr (.inr (.inr (cpq pt pw N)))))))) (xu_in (xn1 _ rfl) (xu_uu _ _ _ _)) ?_
    refine xr_aload_n X 1 dX8_settle_48 rfl rfl ?_
    refine xr_iconst (v := 0) X dX8_settle_49 (by decide) ?_
    refine xr_put (fs' := [.ref (w + 1), .int (nI N), .int 0, .int 0, .ref (w + 2), .int (m9)]) X (fW_X8_24_7 _) (xu_at (xn0 _ rfl) (xu_s _ _ _)) rfl rfl rfl rfl dX8_settle_50 ?_
    refine xr_heap (h' := (xu (xu h w (.inr (7, [.ref (w + 1), .int (nI N), .int 0, .int 0, .ref (w + 2), .int (m9)]))) (w + 1) (.inl (.object "EvePost$Person", 6, .inr (.inr (.inr (.inr (cpq pt pw N)))))))) (xu_in (xn1 _ rfl) (xu_uu _ _ _ _)) ?_
    refine xr_aload_n X 1 dX8_settle_53 rfl rfl ?_
    refine xr_callV X (xu_at (xn0 _ rfl) (xu_s _ _ _)) rfl kw_499 kw_501 kw_10 cw_X8_learn [] (c_X8_learn (day := 0) (b := 0) (xu_at (xn0 _ rfl) (xu_s _ _ _)) (xu_s _ _ _) (xu_at (xne _ rfl) (xu_at (xn1 _ rfl) htf)) hN (((PWcp hP pw).put (by omega)).put (by omega)) hwB) rfl rfl rfl rfl rfl rfl rfl dX8_settle_54 ?_
    refine xr_heap (h' := (xu (xu (xu h w (.inr (7, [.ref (w + 1), .int (nI N), .int (0), .int (0), .ref (w + 2), .int (nI (moM kd N))]))) (w + 1) (.inl (.object "EvePost$Person", 6, .inr (.inr (.inr (.inr (cpq pt pw N))))))) (w + 2) (.inl (.int, 64, .inl (frZ kd wh mn N fr (2 ^ N)))))) (by rw [xu_in (xn1 _ rfl) (xu_uu _ _ _ _)]; rfl) ?_
    exact xr_vret X rfl rfl rfl rfl rfl rfl dX8_settle_57
  | succ j0 ih =>
    intro p hk
    have lk : p < N := by omega
    obtain ⟨⟨ap, hap1, hapB, hap2⟩, kr1, kr2, kr3, kr4⟩ := hP p lk
    refine xr_iload_n X 0 dX8_settle_18 rfl rfl ?_
    refine xr_aload_n X 1 dX8_settle_19 rfl rfl ?_
    refine xr_get X fF_X8_17_7 (xu_at (xn0 _ rfl) (xu_s _ _ _)) rfl dX8_settle_20 ?_
    refine xr_icmp_ge (tgt := 43) X dX8_settle_23 (by decide) (fun c_23 => absurd c_23 (by rw [i32_le, nI_toInt (by omega), nI_toInt (by omega)]; omega)) (fun _ => ?_)
    refine xr_aload_n X 1 dX8_settle_26 rfl rfl ?_
    refine xr_get X fF_X8_11_7 (xu_at (xn0 _ rfl) (xu_s _ _ _)) rfl dX8_settle_27 ?_
    refine xr_iload_n X 0 dX8_settle_30 rfl rfl ?_
    refine xr_aload_n X 2 dX8_settle_31 rfl rfl ?_
    refine xr_iload_n X 0 dX8_settle_32 rfl rfl ?_
    refine xr_callV X (xu_at (by omega) (xu_at (by omega) hko)) rfl kw_495 kw_496 kw_497 cw_X7_reading [.int (nI p)] (c_X7_reading (xu_at (by omega) (xu_at (by omega) hko)) (xu_at (by omega) (xu_at (by omega) hpt)) hN (by omega) hap1) rfl rfl rfl rfl rfl rfl rfl dX8_settle_33 ?_
    obtain ⟨r9, hr9, hc9⟩ := pC_cast (k := kd p) (by omega) (by omega)
    refine xr_aast (j := p) X (xu_s _ _ _) (xu_at (by omega) (xu_at (by omega) hap2)) hr9 (Or.inr hc9) (xI_n (by omega) (by omega)) dX8_settle_36 ?_
    refine xr_heap (h' := (xu (xu h w (.inr (7, [.ref (w + 1), .int (nI N), .int (d9), .int (b9), .ref (w + 2), .int (m9)]))) (w + 1) (.inl (.object "EvePost$Person", 6, .inr (.inr (.inr (.inr (va_up (cpq pt pw p) p (some ap))))))))) (xu_uu _ _ _ _) ?_
    refine xr_iinc (v := nI (p + 1)) (lv' := [(2, .int (nI (p + 1))), (0, .ref w), (1, .ref (e + 13))]) X 0 dX8_settle_37 rfl (nI_1 _) rfl rfl ?_
    refine xr_goto (tgt := 18) X dX8_settle_40 (by decide) ?_
    refine xr_heap (h' := (xu (xu h w (.inr (7, [.ref (w + 1), .int (nI N), .int (d9), .int (b9), .ref (w + 2), .int (m9)]))) (w + 1) (.inl (.object "EvePost$Person", 6, .inr (.inr (.inr (.inr (cpq pt pw (p + 1))))))))) (by rw [cpq_s hap1]) ?_
    exact ih (p + 1) (by omega)
set_option maxRecDepth 100000 in
theorem c_X8_settle {l : Launch} {Ω : xW} {h : xH} {sz : Nat} {e w B N : Nat} {kd wh mn : Nat → Nat} {pt pw : Nat → Option Nat} {fr : Nat → Int32} {s9 d9 b9 m9 le fa tk fi be : Int32} (hto : h w = some (tO w s9 d9 b9 m9)) (htp : h (w + 1) = some (.inl (.object "EvePost$Person", 6, .inr (.inr (.inr (.inr pw)))))) (htf : h (w + 2) = some (.inl (.int, 64, .inl fr))) (hko : h (e + 13) = some (kO e le (nI N) fa tk fi be)) (hpt : h (e + 15) = some (.inl (.object "EvePost$Person", 6, .inr (.inr (.inr (.inr pt)))))) (hP : PW B h pt N kd wh mn) (hN : N ≤ 6) (hew : e + 16 ≤ w) (hwB : w + 3 ≤ B) : xC l Ω yX8_settle cX8_settle 3 none 4 0 0 [.ref w, .ref (e + 13)] h sz (none) (xu (xu (xu h w (.inr (7, [.ref (w + 1), .int (nI N), .int (0), .int (0), .ref (w + 2), .int (nI (moM kd N))]))) (w + 1) (.inl (.object "EvePost$Person", 6, .inr (.inr (.inr (.inr (cpq pt pw N))))))) (w + 2) (.inl (.int, 64, .inl (frZ kd wh mn N fr (2 ^ N))))) (sz) := by
  refine xC_of (lv := [(0, .ref w), (1, .ref (e + 13))]) pn_X8 rfl rfl (fun Γ X hΓ hbs => ?_)
  have X : xX Γ Ω cX8_settle 3 RX8 "settle" none 4 140 0 0 := X
  subst hΓ
  refine xr_aload_n X 0 dX8_settle_0 rfl rfl ?_
  refine xr_aload_n X 1 dX8_settle_1 rfl rfl ?_
  refine xr_callV X hko rfl kw_488 kw_489 kw_490 cw_X7_peopleRead [] (c_X7_peopleRead hko) rfl rfl rfl rfl rfl rfl rfl dX8_settle_2 ?_
  refine xr_aload_n X 0 dX8_settle_5 rfl rfl ?_
  refine xr_get X fF_X8_11_7 hto rfl dX8_settle_6 ?_
  refine xr_alen (v := 6) X htp (show nI 6 = 6 by decide) dX8_settle_9 ?_
  refine xr_min X kw_492 kw_493 kw_72 kw_494 rfl rfl rfl rfl rfl dX8_settle_10 ?_
  refine xr_top (y := (nI N)) (if_neg (by rw [i32_lt, nI_toInt (by omega), k32_6]; omega)) ?_
  refine xr_put (fs' := [.ref (w + 1), .int (nI N), .int (d9), .int (b9), .ref (w + 2), .int (m9)]) X (fW_X8_17_7 _) hto rfl rfl rfl rfl dX8_settle_13 ?_
  refine xr_iconst (v := 0) X dX8_settle_16 (by decide) ?_
  refine xr_istore_n (lv' := [(2, .int 0), (0, .ref w), (1, .ref (e + 13))]) X dX8_settle_17 rfl rfl rfl ?_
  refine xr_locs (lv' := [(2, .int 0), (0, .ref w), (1, .ref (e + 13))]) [0, 1, 2] rfl ?_
  refine xr_heap (h' := (xu (xu h w (.inr (7, [.ref (w + 1), .int (nI N), .int (d9), .int (b9), .ref (w + 2), .int (m9)]))) (w + 1) (.inl (.object "EvePost$Person", 6, .inr (.inr (.inr (.inr (cpq pt pw 0)))))))) (by rw [cpq_0]; exact (xu_id (xu_at (xn1 _ rfl) htp)).symm) ?_
  exact l_X8_settle X hto htp htf hko hpt hP hN hew hwB N 0 (by omega)
/-- the people of a town that becomes another of n2 people, after k turns -/
def bcp (p2 : Nat → Option Nat) (n2 : Nat) (pw : Nat → Option Nat) (k : Nat) : Nat → Option Nat := fun q => if q < k then (if q < n2 then p2 q else none) else pw q
theorem bcp_0 (p2 : Nat → Option Nat) (n2 : Nat) (pw : Nat → Option Nat) : bcp p2 n2 pw 0 = pw := by funext q; simp [bcp]
theorem bcp_s {p2 pw : Nat → Option Nat} {n2 k a : Nat} (hk : k < n2) (h : p2 k = some a) : va_up (bcp p2 n2 pw k) k (some a) = bcp p2 n2 pw (k + 1) := by
  funext q
  unfold va_up bcp
  by_cases c : q = k
  · subst c; simp [h, hk]
  · by_cases c2 : q < k
    · simp [c, c2, show q < k + 1 by omega]
    · simp [c, c2, show ¬ q < k + 1 by omega]
theorem bcp_n {p2 pw : Nat → Option Nat} {n2 k : Nat} (hk : ¬ k < n2) : va_up (bcp p2 n2 pw k) k none = bcp p2 n2 pw (k + 1) := by
  funext q
  unfold va_up bcp
  by_cases c : q = k
  · subst c; simp [hk]
  · by_cases c2 : q < k
    · simp [c, c2, show q < k + 1 by omega]
    · simp [c, c2, show ¬ q < k + 1 by omega]
set_option maxRecDepth 100000 in
theorem l_X8_become {Γ : xΓ} {Ω : xW} {h : xH} {sz : Nat} (X : xX Γ Ω cX8_become 3 RX8 "become" none 1 35 0 0) {w w2 B n2 : Nat} {kd wh mn : Nat → Nat} {p2 pw : Nat → Option Nat} {fr f2 : Nat → Int32} {s9 d9 b9 m9 d8 b8 m8 : Int32} (hto : h w = some (tO w s9 d9 b9 m9)) (htp : h (w + 1) = some (.inl (.object "EvePost$Person", 6, .inr (.inr (.inr (.inr pw)))))) (htf : h (w + 2) = some (.inl (.int, 64, .inl fr))) (hto2 : h w2 = some (tO w2 (nI n2) d8 b8 m8)) (htp2 : h (w2 + 1) = some (.inl (.object "EvePost$Person", 6, .inr (.inr (.inr (.inr p2)))))) (htf2 : h (w2 + 2) = some (.inl (.int, 64, .inl f2))) (hP : PW B h p2 n2 kd wh mn) (h62 : n2 ≤ 6) (hww : w + 3 ≤ w2 ∨ w2 + 3 ≤ w) (hwB : w + 3 ≤ B) : ∀ (j0 k : Nat), k + j0 = 6 → xG Γ Ω 3 (xQ Γ Ω (none) (xu (xu (xu h (w + 1) (.inl (.object "EvePost$Person", 6, .inr (.inr (.inr (.inr (bcp p2 n2 pw 6))))))) (w + 2) (.inl (.int, 64, .inl (va_cpy f2 fr 0 0 64)))) w (.inr (7, [.ref (w + 1), .int (nI n2), .int (d8), .int (b8), .ref (w + 2), .int (m8)]))) (sz) 0 0) 2 [(2, .int (nI k)), (0, .ref w), (1, .ref w2)] ([]) (xu h (w + 1) (.inl (.object "EvePost$Person", 6, .inr (.inr (.inr (.inr (bcp p2 n2 pw k))))))) sz 0 0 := by
  intro j0
  induction j0 with
  | zero =>
    intro k hk
    have ek : k = 6 := by omega
    refine xr_iload_n X 0 dX8_become_2 rfl rfl ?_
    refine xr_aload_n X 1 dX8_become_3 rfl rfl ?_
    refine xr_get X fF_X8_11_7 (xu_at (xn0 _ rfl) hto) rfl dX8_become_4 ?_
    refine xr_alen (v := 6) X (xu_s _ _ _) (show nI 6 = 6 by decide) dX8_become_7 ?_
    refine xr_icmp_ge (tgt := 28) X dX8_become_8 (by decide) (fun _ => ?_) (fun c_8 => absurd (by rw [i32_le, k32_6, nI_toInt (by omega)]; omega) c_8)
    refine xr_aload_n X 2 dX8_become_28 rfl rfl ?_
    refine xr_get X fF_X8_27_7 (xu_at (by omega) hto2) rfl dX8_become_29 ?_
    refine xr_iconst (v := 0) X dX8_become_32 (by decide) ?_
    refine xr_aload_n X 1 dX8_become_33 rfl rfl ?_
    refine xr_get X fF_X8_27_7 (xu_at (xn0 _ rfl) hto) rfl dX8_become_34 ?_
    refine xr_iconst (v := 0) X dX8_become_37 (by decide) ?_
    refine xr_aload_n X 1 dX8_become_38 rfl rfl ?_
    refine xr_get X fF_X8_27_7 (xu_at (xn0 _ rfl) hto) rfl dX8_become_39 ?_
    refine xr_alen (v := 64) X (xu_at (xne _ rfl) htf) (show nI 64 = 64 by decide) dX8_become_42 ?_
    refine xr_acopy X kw_816 kw_281 kw_280 kw_61 (xu_at (by omega) htf2) (xu_at (xne _ rfl) htf) (by decide) (by decide) (by decide) (by decide) (by decide) rfl rfl rfl dX8_become_43 ?_
    refine xr_heap (h' := (xu (xu h (w + 1) (.inl (.object "EvePost$Person", 6, .inr (.inr (.inr (.inr (bcp p2 n2 pw k))))))) (w + 2) (.inl (.int, 64, .inl (va_cpy f2 fr 0 0 64))))) (by rfl) ?_
    refine xr_aload_n X 1 dX8_become_46 rfl rfl ?_
    refine xr_aload_n X 2 dX8_become_47 rfl rfl ?_
    refine xr_get X fF_X8_17_7 (xu_at (by omega) (xu_at (by omega) hto2)) rfl dX8_become_48 ?_
    refine xr_put (fs' := [.ref (w + 1), .int (nI n2), .int (d9), .int (b9), .ref (w + 2), .int (m9)]) X (fW_X8_17_7 _) (xu_at (xn0 _ rfl) (xu_at (xn0 _ rfl) hto)) rfl rfl rfl rfl dX8_become_51 ?_
    refine xr_aload_n X 1 dX8_become_54 rfl rfl ?_
    refine xr_aload_n X 2 dX8_become_55 rfl rfl ?_
    refine xr_get X fF_X8_21_7 (xu_at (by omega) (xu_at (by omega) (xu_at (by omega) hto2))) rfl dX8_become_56 ?_
    refine xr_put (fs' := [.ref (w + 1), .int (nI n2), .int d8, .int (b9), .ref (w + 2), .int (m9)]) X (fW_X8_21_7 _) (xu_s _ _ _) rfl rfl rfl rfl dX8_become_59 ?_
    refine xr_heap (h' := (xu (xu (xu h (w + 1) (.inl (.object "EvePost$Person", 6, .inr (.inr (.inr (.inr (bcp p2 n2 pw k))))))) (w + 2) (.inl (.int, 64, .inl (va_cpy f2 fr 0 0 64)))) w (.inr (7, [.ref (w + 1), .int (nI n2), .int d8, .int (b9), .ref (w + 2), .int (m9)])))) (xu_uu _ _ _ _) ?_
    refine xr_aload_n X 1 dX8_become_62 rfl rfl ?_
    refine xr_aload_n X 2 dX8_become_63 rfl rfl ?_
    refine xr_get X fF_X8_24_7 (xu_at (by omega) (xu_at (by omega) (xu_at (by omega) hto2))) rfl dX8_become_64 ?_
    refine xr_put (fs' := [.ref (w + 1), .int (nI n2), .int d8, .int b8, .ref (w + 2), .int (m9)]) X (fW_X8_24_7 _) (xu_s _ _ _) rfl rfl rfl rfl dX8_become_67 ?_
    refine xr_heap (h' := (xu (xu (xu h (w + 1) (.inl (.object "EvePost$Person", 6, .inr (.inr (.inr (.inr (bcp p2 n2 pw k))))))) (w + 2) (.inl (.int, 64, .inl (va_cpy f2 fr 0 0 64)))) w (.inr (7, [.ref (w + 1), .int (nI n2), .int d8, .int b8, .ref (w + 2), .int (m9)])))) (xu_uu _ _ _ _) ?_
    refine xr_aload_n X 1 dX8_become_70 rfl rfl ?_
    refine xr_aload_n X 2 dX8_become_71 rfl rfl ?_
    refine xr_get X fF_X8_31_7 (xu_at (by omega) (xu_at (by omega) (xu_at (by omega) hto2))) rfl dX8_become_72 ?_
    refine xr_put (fs' := [.ref (w + 1), .int (nI n2), .int d8, .int b8, .ref (w + 2), .int m8]) X (fW_X8_31_7 _) (xu_s _ _ _) rfl rfl rfl rfl dX8_become_75 ?_
    refine xr_heap (h' := (xu (xu (xu h (w + 1) (.inl (.object "EvePost$Person", 6, .inr (.inr (.inr (.inr (bcp p2 n2 pw k))))))) (w + 2) (.inl (.int, 64, .inl (va_cpy f2 fr 0 0 64)))) w (.inr (7, [.ref (w + 1), .int (nI n2), .int d8, .int b8, .ref (w + 2), .int m8])))) (xu_uu _ _ _ _) ?_
    exact xr_vret X rfl rfl (by rw [ek]) rfl rfl rfl dX8_become_78
  | succ j0 ih =>
    intro k hk
    have lk : k < 6 := by omega
    refine xr_iload_n X 0 dX8_become_2 rfl rfl ?_
    refine xr_aload_n X 1 dX8_become_3 rfl rfl ?_
    refine xr_get X fF_X8_11_7 (xu_at (xn0 _ rfl) hto) rfl dX8_become_4 ?_
    refine xr_alen (v := 6) X (xu_s _ _ _) (show nI 6 = 6 by decide) dX8_become_7 ?_
    refine xr_icmp_ge (tgt := 28) X dX8_become_8 (by decide) (fun c_8 => absurd c_8 (by rw [i32_le, k32_6, nI_toInt (by omega)]; omega)) (fun _ => ?_)
    rcases Nat.lt_or_ge k n2 with hlt | hlt
    · obtain ⟨⟨ap, hap1, hapB, hap2⟩, kr1, kr2, kr3, kr4⟩ := hP k hlt
      refine xr_aload_n X 1 dX8_become_11 rfl rfl ?_
      refine xr_get X fF_X8_11_7 (xu_at (xn0 _ rfl) hto) rfl dX8_become_12 ?_
      refine xr_iload_n X 0 dX8_become_15 rfl rfl ?_
      refine xr_aload_n X 2 dX8_become_16 rfl rfl ?_
      refine xr_iload_n X 0 dX8_become_17 rfl rfl ?_
      refine xr_callV X (xu_at (by omega) hto2) rfl kw_503 kw_504 kw_505 cw_X8_one [.int (nI k)] (c_X8_one (xu_at (by omega) hto2) (xu_at (by omega) htp2) h62 hlt hap1) rfl rfl rfl rfl rfl rfl rfl dX8_become_18 ?_
      obtain ⟨r9, hr9, hc9⟩ := pC_cast (k := kd k) (by omega) (by omega)
      refine xr_aast (j := k) X (xu_s _ _ _) (xu_at (by omega) hap2) hr9 (Or.inr hc9) (xI_n (by omega) (by omega)) dX8_become_21 ?_
      refine xr_heap (h' := (xu h (w + 1) (.inl (.object "EvePost$Person", 6, .inr (.inr (.inr (.inr (va_up (bcp p2 n2 pw k) k (some ap))))))))) (xu_uu _ _ _ _) ?_
      refine xr_iinc (v := nI (k + 1)) (lv' := [(2, .int (nI (k + 1))), (0, .ref w), (1, .ref w2)]) X 0 dX8_become_22 rfl (nI_1 _) rfl rfl ?_
      refine xr_goto (tgt := 2) X dX8_become_25 (by decide) ?_
      refine xr_heap (h' := (xu h (w + 1) (.inl (.object "EvePost$Person", 6, .inr (.inr (.inr (.inr (bcp p2 n2 pw (k + 1))))))))) (by rw [bcp_s hlt hap1]) ?_
      exact ih (k + 1) (by omega)
    · refine xr_aload_n X 1 dX8_become_11 rfl rfl ?_
      refine xr_get X fF_X8_11_7 (xu_at (xn0 _ rfl) hto) rfl dX8_become_12 ?_
      refine xr_iload_n X 0 dX8_become_15 rfl rfl ?_
      refine xr_aload_n X 2 dX8_become_16 rfl rfl ?_
      refine xr_iload_n X 0 dX8_become_17 rfl rfl ?_
      refine xr_callV X (xu_at (by omega) hto2) rfl kw_503 kw_504 kw_505 cw_X8_one [.int (nI k)] (c_X8_oneN (xu_at (by omega) hto2) (xu_at (by omega) htp2) h62 (by rw [nI_toInt (by omega)]; omega)) rfl rfl rfl rfl rfl rfl rfl dX8_become_18 ?_
      refine xr_aastN (j := k) X (xu_s _ _ _) (xI_n (by omega) (by omega)) dX8_become_21 ?_
      refine xr_heap (h' := (xu h (w + 1) (.inl (.object "EvePost$Person", 6, .inr (.inr (.inr (.inr (va_up (bcp p2 n2 pw k) k none)))))))) (xu_uu _ _ _ _) ?_
      refine xr_iinc (v := nI (k + 1)) (lv' := [(2, .int (nI (k + 1))), (0, .ref w), (1, .ref w2)]) X 0 dX8_become_22 rfl (nI_1 _) rfl rfl ?_
      refine xr_goto (tgt := 2) X dX8_become_25 (by decide) ?_
      refine xr_heap (h' := (xu h (w + 1) (.inl (.object "EvePost$Person", 6, .inr (.inr (.inr (.inr (bcp p2 n2 pw (k + 1))))))))) (by rw [bcp_n (by omega)]) ?_
      exact ih (k + 1) (by omega)
set_option maxRecDepth 100000 in
theorem c_X8_become {l : Launch} {Ω : xW} {h : xH} {sz : Nat} {w w2 B n2 : Nat} {kd wh mn : Nat → Nat} {p2 pw : Nat → Option Nat} {fr f2 : Nat → Int32} {s9 d9 b9 m9 d8 b8 m8 : Int32} (hto : h w = some (tO w s9 d9 b9 m9)) (htp : h (w + 1) = some (.inl (.object "EvePost$Person", 6, .inr (.inr (.inr (.inr pw)))))) (htf : h (w + 2) = some (.inl (.int, 64, .inl fr))) (hto2 : h w2 = some (tO w2 (nI n2) d8 b8 m8)) (htp2 : h (w2 + 1) = some (.inl (.object "EvePost$Person", 6, .inr (.inr (.inr (.inr p2)))))) (htf2 : h (w2 + 2) = some (.inl (.int, 64, .inl f2))) (hP : PW B h p2 n2 kd wh mn) (h62 : n2 ≤ 6) (hww : w + 3 ≤ w2 ∨ w2 + 3 ≤ w) (hwB : w + 3 ≤ B) : xC l Ω yX8_become cX8_become 3 none 1 0 0 [.ref w, .ref w2] h sz (none) (xu (xu (xu h (w + 1) (.inl (.object "EvePost$Person", 6, .inr (.inr (.inr (.inr (bcp p2 n2 pw 6))))))) (w + 2) (.inl (.int, 64, .inl (va_cpy f2 fr 0 0 64)))) w (.inr (7, [.ref (w + 1), .int (nI n2), .int (d8), .int (b8), .ref (w + 2), .int (m8)]))) (sz) := by
  refine xC_of (lv := [(0, .ref w), (1, .ref w2)]) pn_X8 rfl rfl (fun Γ X hΓ hbs => ?_)
  have X : xX Γ Ω cX8_become 3 RX8 "become" none 1 35 0 0 := X
  subst hΓ
  refine xr_iconst (v := 0) X dX8_become_0 (by decide) ?_
  refine xr_istore_n (lv' := [(2, .int 0), (0, .ref w), (1, .ref w2)]) X dX8_become_1 rfl rfl rfl ?_
  refine xr_heap (h' := (xu h (w + 1) (.inl (.object "EvePost$Person", 6, .inr (.inr (.inr (.inr (bcp p2 n2 pw 0)))))))) (by rw [bcp_0]; exact (xu_id htp).symm) ?_
  exact l_X8_become X hto htp htf hto2 htp2 htf2 hP h62 hww hwB 6 0 (by omega)
