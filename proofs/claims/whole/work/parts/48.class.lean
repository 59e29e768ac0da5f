theorem xu3_id {h : xH} {a b c : Nat} {x y z : xE} (h1 : h a = some x) (h2 : h b = some y) (h3 : h c = some z) : h = xu (xu (xu h a x) b y) c z := by
  rw [xu_id h1, xu_id h2, xu_id h3]
theorem xu_33 {h : xH} {p q r : Nat} {a b c a' b' c' : xE} (h1 : p ≠ q) (h2 : p ≠ r) (h3 : q ≠ r) : xu (xu (xu (xu (xu (xu h p a) q b) r c) p a') q b') r c' = xu (xu (xu h p a') q b') r c' := by
  funext x
  unfold xu
  by_cases x1 : x = r
  · simp [x1]
  · by_cases x2 : x = q
    · simp [x1, x2]
    · by_cases x3 : x = p <;> simp [x1, x2, x3]
/-- the class's kept ones and their number behind k letters posted -/
def uS (u : Nat → Int32) (a b : Nat) (item : Nat → Int32) (F : Nat) : Nat → (Nat → Int32) × Nat
  | 0 => (u, a)
  | k + 1 => (keepU (uS u a b item F k).1 (uS u a b item F k).2 (nI (befN item F b k)), keepN (uS u a b item F k).2)
theorem uS_le {u : Nat → Int32} {a b : Nat} {item : Nat → Int32} {F : Nat} (h : a ≤ 24) : ∀ k, (uS u a b item F k).2 ≤ 24
  | 0 => h
  | k + 1 => keepN_le (uS_le h k)
theorem lackF_1 {lane many : Nat → Int32} {r i n : Int32} (h : (lane r.toNatClampNeg).toInt < 0) : lackF lane many r i n = 1 := if_pos h
theorem lackF_2 {lane many : Nat → Int32} {r i n : Int32} (h : ¬ (lane r.toNatClampNeg).toInt < 0) (h2 : i.toInt < 0 ∨ (many r.toNatClampNeg).toInt < i.toInt + n.toInt) : lackF lane many r i n = 2 := (if_neg h).trans (if_pos h2)
theorem lackF_0 {lane many : Nat → Int32} {r i n : Int32} (h : ¬ (lane r.toNatClampNeg).toInt < 0) (h2 : ¬ (i.toInt < 0 ∨ (many r.toNatClampNeg).toInt < i.toInt + n.toInt)) : lackF lane many r i n = 0 := (if_neg h).trans (if_neg h2)
set_option maxRecDepth 100000 in
theorem c_rol_S {l : Launch} {Ω : xW} {h : xH} {sz : Nat} {e w np : Nat} {ac st d9 b9 m9 : Int32} {lane many sizes item : Nat → Int32} {it : Nat → Nat → Int32} {r i n lo hi : Int32} (heo : h e = some (eO e w ac st)) (hw : w = e + 16) (hto : h w = some (tO w (nI np) d9 b9 m9)) (h6 : np ≤ 6) (ho : h (e + 1) = some (.inr (5, [.ref (e + 2), .ref (e + 11), .ref (e + 12)]))) (hsizes : h (e + 12) = some (.inl (.int, 8, .inl sizes))) (hout : h (e + 2) = some (.inl (.array .int, 8, .inr (.inr (.inr (.inr (xmo (e + 2) 8))))))) (hin : ∀ q, q < 8 → h (e + 3 + q) = some (.inl (.int, 40, .inl (it q)))) (hsz : ∀ q, q < 8 → sizes q = if (lane q).toInt < 0 then -1 else many q) (hM : ∀ q, q < 8 → 0 ≤ (many q).toInt ∧ (many q).toInt ≤ 40) (hIt : ∀ q j, q < 8 → j < 40 → it q j = item (40 * q + j)) (h0 : np = 0) : xC l Ω yX11_refusalOfLetters cX11_refusalOfLetters 7 (some .int) 5 0 0 [.ref e, .int r, .int i, .int n, .int lo, .int hi] h sz (some (.int (-1000002))) h (sz) := by
  refine xC_of (lv := [(0, .ref e), (1, .int r), (2, .int i), (3, .int n), (4, .int lo), (5, .int hi)]) pn_X11 rfl rfl (fun Γ X hΓ hbs => ?_)
  have X : xX Γ Ω cX11_refusalOfLetters 7 RX11 "refusalOfLetters" (some .int) 5 175 0 0 := X
  subst hΓ
  refine xr_aload_n X 0 dX11_refusalOfLetters_0 rfl rfl ?_
  refine xr_get X fF_X11_26_10 heo rfl dX11_refusalOfLetters_1 ?_
  refine xr_callV X hto rfl kw_559 kw_560 kw_561 cw_X8_isNone [] (c_X8_isNone hto h6) rfl rfl rfl rfl rfl rfl rfl dX11_refusalOfLetters_4 ?_
  refine xr_if_eq (tgt := 13) X dX11_refusalOfLetters_7 (by decide) (fun c_7 => absurd c_7 (xb_1.mpr (decide_eq_true h0))) (fun _ => ?_)
  refine xr_ldc (v := (-1000002)) X kw_563 dX11_refusalOfLetters_10 ?_
  exact xr_iret X rfl rfl rfl rfl rfl rfl dX11_refusalOfLetters_12
set_option maxRecDepth 100000 in
theorem c_rol_B {l : Launch} {Ω : xW} {h : xH} {sz : Nat} {e w np : Nat} {ac st d9 b9 m9 : Int32} {lane many sizes item : Nat → Int32} {it : Nat → Nat → Int32} {r i n lo hi : Int32} (heo : h e = some (eO e w ac st)) (hw : w = e + 16) (hto : h w = some (tO w (nI np) d9 b9 m9)) (h6 : np ≤ 6) (ho : h (e + 1) = some (.inr (5, [.ref (e + 2), .ref (e + 11), .ref (e + 12)]))) (hsizes : h (e + 12) = some (.inl (.int, 8, .inl sizes))) (hout : h (e + 2) = some (.inl (.array .int, 8, .inr (.inr (.inr (.inr (xmo (e + 2) 8))))))) (hin : ∀ q, q < 8 → h (e + 3 + q) = some (.inl (.int, 40, .inl (it q)))) (hsz : ∀ q, q < 8 → sizes q = if (lane q).toInt < 0 then -1 else many q) (hM : ∀ q, q < 8 → 0 ≤ (many q).toInt ∧ (many q).toInt ≤ 40) (hIt : ∀ q j, q < 8 → j < 40 → it q j = item (40 * q + j)) (h0 : 0 < np) (hB : ¬ ((0 ≤ r.toInt ∧ r.toInt < 8) ∧ lo.toInt ≤ n.toInt ∧ n.toInt ≤ hi.toInt)) : xC l Ω yX11_refusalOfLetters cX11_refusalOfLetters 7 (some .int) 5 0 0 [.ref e, .int r, .int i, .int n, .int lo, .int hi] h sz (some (.int (-1000001))) h (sz) := by
  refine xC_of (lv := [(0, .ref e), (1, .int r), (2, .int i), (3, .int n), (4, .int lo), (5, .int hi)]) pn_X11 rfl rfl (fun Γ X hΓ hbs => ?_)
  have X : xX Γ Ω cX11_refusalOfLetters 7 RX11 "refusalOfLetters" (some .int) 5 175 0 0 := X
  subst hΓ
  refine xr_aload_n X 0 dX11_refusalOfLetters_0 rfl rfl ?_
  refine xr_get X fF_X11_26_10 heo rfl dX11_refusalOfLetters_1 ?_
  refine xr_callV X hto rfl kw_559 kw_560 kw_561 cw_X8_isNone [] (c_X8_isNone hto h6) rfl rfl rfl rfl rfl rfl rfl dX11_refusalOfLetters_4 ?_
  refine xr_if_eq (tgt := 13) X dX11_refusalOfLetters_7 (by decide) (fun _ => ?_) (fun c_7 => absurd (xb_0.mpr (decide_eq_false (by omega))) c_7)
  refine xr_aload_n X 0 dX11_refusalOfLetters_13 rfl rfl ?_
  refine xr_get X fF_X11_12_10 heo rfl dX11_refusalOfLetters_14 ?_
  refine xr_iload_n X 1 dX11_refusalOfLetters_17 rfl rfl ?_
  refine xr_callV X ho rfl kw_218 kw_219 kw_220 cw_X6_isPlace [.int r] c_X6_isPlace rfl rfl rfl rfl rfl rfl rfl dX11_refusalOfLetters_18 ?_
  refine xr_if_eq (tgt := 36) X dX11_refusalOfLetters_21 (by decide) (fun c_21 => ?_) (fun c_21 => ?_)
  · have c_21 := of_decide_eq_false (xb_0.mp c_21)
    (try simp (disch := omega) only [nI_toInt, i32_add, i32_sub, i32_mul, i64_addl, i32_l, k32_0, k32_8, k64_0, k64_8] at c_21)
    refine xr_ldc (v := (-1000001)) X kw_226 dX11_refusalOfLetters_36 ?_
    exact xr_iret X rfl rfl rfl rfl rfl rfl dX11_refusalOfLetters_38
  · have c_21 := of_decide_eq_true (xb_1.mp c_21)
    (try simp (disch := omega) only [nI_toInt, i32_add, i32_sub, i32_mul, i64_addl, i32_l, k32_0, k32_8, k64_0, k64_8] at c_21)
    refine xr_iload_n X 3 dX11_refusalOfLetters_24 rfl rfl ?_
    refine xr_iload X 4 dX11_refusalOfLetters_25 rfl ?_
    refine xr_icmp_lt (tgt := 36) X dX11_refusalOfLetters_27 (by decide) (fun c_27 => ?_) (fun c_27 => ?_)
    · have c_27 := i32_lt.mp c_27
      (try simp (disch := omega) only [nI_toInt, i32_add, i32_sub, i32_mul, i64_addl, i32_l] at c_27)
      refine xr_ldc (v := (-1000001)) X kw_226 dX11_refusalOfLetters_36 ?_
      exact xr_iret X rfl rfl rfl rfl rfl rfl dX11_refusalOfLetters_38
    · have c_27 := mt i32_lt.mpr c_27
      (try simp (disch := omega) only [nI_toInt, i32_add, i32_sub, i32_mul, i64_addl, i32_l] at c_27)
      refine xr_iload_n X 3 dX11_refusalOfLetters_30 rfl rfl ?_
      refine xr_iload X 5 dX11_refusalOfLetters_31 rfl ?_
      refine xr_icmp_le (tgt := 39) X dX11_refusalOfLetters_33 (by decide) (fun c_33 => ?_) (fun c_33 => ?_)
      · have c_33 := i32_le.mp c_33
        (try simp (disch := omega) only [nI_toInt, i32_add, i32_sub, i32_mul, i64_addl, i32_l] at c_33)
        exfalso
        omega
        --end
      · have c_33 := mt i32_le.mpr c_33
        (try simp (disch := omega) only [nI_toInt, i32_add, i32_sub, i32_mul, i64_addl, i32_l] at c_33)
        refine xr_ldc (v := (-1000001)) X kw_226 dX11_refusalOfLetters_36 ?_
        exact xr_iret X rfl rfl rfl rfl rfl rfl dX11_refusalOfLetters_38
set_option maxRecDepth 100000 in
theorem c_rol_1 {l : Launch} {Ω : xW} {h : xH} {sz : Nat} {e w np : Nat} {ac st d9 b9 m9 : Int32} {lane many sizes item : Nat → Int32} {it : Nat → Nat → Int32} {r i n lo hi : Int32} (heo : h e = some (eO e w ac st)) (hw : w = e + 16) (hto : h w = some (tO w (nI np) d9 b9 m9)) (h6 : np ≤ 6) (ho : h (e + 1) = some (.inr (5, [.ref (e + 2), .ref (e + 11), .ref (e + 12)]))) (hsizes : h (e + 12) = some (.inl (.int, 8, .inl sizes))) (hout : h (e + 2) = some (.inl (.array .int, 8, .inr (.inr (.inr (.inr (xmo (e + 2) 8))))))) (hin : ∀ q, q < 8 → h (e + 3 + q) = some (.inl (.int, 40, .inl (it q)))) (hsz : ∀ q, q < 8 → sizes q = if (lane q).toInt < 0 then -1 else many q) (hM : ∀ q, q < 8 → 0 ≤ (many q).toInt ∧ (many q).toInt ≤ 40) (hIt : ∀ q j, q < 8 → j < 40 → it q j = item (40 * q + j)) (h0 : 0 < np) (hok : (0 ≤ r.toInt ∧ r.toInt < 8) ∧ lo.toInt ≤ n.toInt ∧ n.toInt ≤ hi.toInt) (hl : (lane r.toNatClampNeg).toInt < 0) : xC l Ω yX11_refusalOfLetters cX11_refusalOfLetters 7 (some .int) 5 0 0 [.ref e, .int r, .int i, .int n, .int lo, .int hi] h sz (some (.int ((-1000010) - 1))) (xu h e (.inr (10, [.ref (e + 1), .ref (e + 13), .ref w, .ref (e + 19), .ref (e + 20), .ref (e + 28), .ref (e + 30), .int (ac), .int (1)]))) (sz) := by
  refine xC_of (lv := [(0, .ref e), (1, .int r), (2, .int i), (3, .int n), (4, .int lo), (5, .int hi)]) pn_X11 rfl rfl (fun Γ X hΓ hbs => ?_)
  have X : xX Γ Ω cX11_refusalOfLetters 7 RX11 "refusalOfLetters" (some .int) 5 175 0 0 := X
  subst hΓ
  refine xr_aload_n X 0 dX11_refusalOfLetters_0 rfl rfl ?_
  refine xr_get X fF_X11_26_10 heo rfl dX11_refusalOfLetters_1 ?_
  refine xr_callV X hto rfl kw_559 kw_560 kw_561 cw_X8_isNone [] (c_X8_isNone hto h6) rfl rfl rfl rfl rfl rfl rfl dX11_refusalOfLetters_4 ?_
  refine xr_if_eq (tgt := 13) X dX11_refusalOfLetters_7 (by decide) (fun _ => ?_) (fun c_7 => absurd (xb_0.mpr (decide_eq_false (by omega))) c_7)
  refine xr_aload_n X 0 dX11_refusalOfLetters_13 rfl rfl ?_
  refine xr_get X fF_X11_12_10 heo rfl dX11_refusalOfLetters_14 ?_
  refine xr_iload_n X 1 dX11_refusalOfLetters_17 rfl rfl ?_
  refine xr_callV X ho rfl kw_218 kw_219 kw_220 cw_X6_isPlace [.int r] c_X6_isPlace rfl rfl rfl rfl rfl rfl rfl dX11_refusalOfLetters_18 ?_
  refine xr_if_eq (tgt := 36) X dX11_refusalOfLetters_21 (by decide) (fun c_21 => absurd c_21 (xb_1.mpr (decide_eq_true (by omega)))) (fun _ => ?_)
  refine xr_iload_n X 3 dX11_refusalOfLetters_24 rfl rfl ?_
  refine xr_iload X 4 dX11_refusalOfLetters_25 rfl ?_
  refine xr_icmp_lt (tgt := 36) X dX11_refusalOfLetters_27 (by decide) (fun c_27 => absurd c_27 (by rw [i32_lt]; omega)) (fun _ => ?_)
  refine xr_iload_n X 3 dX11_refusalOfLetters_30 rfl rfl ?_
  refine xr_iload X 5 dX11_refusalOfLetters_31 rfl ?_
  refine xr_icmp_le (tgt := 39) X dX11_refusalOfLetters_33 (by decide) (fun _ => ?_) (fun c_33 => absurd (by rw [i32_le]; omega) c_33)
  refine xr_aload_n X 0 dX11_refusalOfLetters_39 rfl rfl ?_
  refine xr_get X fF_X11_12_10 heo rfl dX11_refusalOfLetters_40 ?_
  refine xr_iload_n X 1 dX11_refusalOfLetters_43 rfl rfl ?_
  refine xr_callV X ho rfl kw_249 kw_250 kw_251 cw_X6_isMissing [.int r] (c_X6_isMissing ho hsizes hsz hM) rfl rfl rfl rfl rfl rfl rfl dX11_refusalOfLetters_44 ?_
  refine xr_if_eq (tgt := 56) X dX11_refusalOfLetters_47 (by decide) (fun c_47 => absurd c_47 (xb_1.mpr (decide_eq_true (fun _ => hl)))) (fun _ => ?_)
  refine xr_aload_n X 0 dX11_refusalOfLetters_50 rfl rfl ?_
  refine xr_iconst (v := 1) X dX11_refusalOfLetters_51 (by decide) ?_
  refine xr_callV X heo rfl kw_227 kw_229 kw_0 cw_X11_found [.int 1] (c_X11_found heo) rfl rfl rfl rfl rfl rfl rfl dX11_refusalOfLetters_52 ?_
  exact xr_iret X rfl rfl rfl rfl rfl rfl dX11_refusalOfLetters_55
set_option maxRecDepth 100000 in
theorem c_rol_2 {l : Launch} {Ω : xW} {h : xH} {sz : Nat} {e w np : Nat} {ac st d9 b9 m9 : Int32} {lane many sizes item : Nat → Int32} {it : Nat → Nat → Int32} {r i n lo hi : Int32} (heo : h e = some (eO e w ac st)) (hw : w = e + 16) (hto : h w = some (tO w (nI np) d9 b9 m9)) (h6 : np ≤ 6) (ho : h (e + 1) = some (.inr (5, [.ref (e + 2), .ref (e + 11), .ref (e + 12)]))) (hsizes : h (e + 12) = some (.inl (.int, 8, .inl sizes))) (hout : h (e + 2) = some (.inl (.array .int, 8, .inr (.inr (.inr (.inr (xmo (e + 2) 8))))))) (hin : ∀ q, q < 8 → h (e + 3 + q) = some (.inl (.int, 40, .inl (it q)))) (hsz : ∀ q, q < 8 → sizes q = if (lane q).toInt < 0 then -1 else many q) (hM : ∀ q, q < 8 → 0 ≤ (many q).toInt ∧ (many q).toInt ≤ 40) (hIt : ∀ q j, q < 8 → j < 40 → it q j = item (40 * q + j)) (h0 : 0 < np) (hok : (0 ≤ r.toInt ∧ r.toInt < 8) ∧ lo.toInt ≤ n.toInt ∧ n.toInt ≤ hi.toInt) (hl : ¬ (lane r.toNatClampNeg).toInt < 0) (h2 : i.toInt < 0 ∨ (many r.toNatClampNeg).toInt < i.toInt + n.toInt) (hlo : 0 ≤ lo.toInt) (hhi : hi.toInt ≤ 40) : xC l Ω yX11_refusalOfLetters cX11_refusalOfLetters 7 (some .int) 5 0 0 [.ref e, .int r, .int i, .int n, .int lo, .int hi] h sz (some (.int ((-1000010) - 2))) (xu h e (.inr (10, [.ref (e + 1), .ref (e + 13), .ref w, .ref (e + 19), .ref (e + 20), .ref (e + 28), .ref (e + 30), .int (ac), .int (2)]))) (sz) := by
  refine xC_of (lv := [(0, .ref e), (1, .int r), (2, .int i), (3, .int n), (4, .int lo), (5, .int hi)]) pn_X11 rfl rfl (fun Γ X hΓ hbs => ?_)
  have X : xX Γ Ω cX11_refusalOfLetters 7 RX11 "refusalOfLetters" (some .int) 5 175 0 0 := X
  subst hΓ
  refine xr_aload_n X 0 dX11_refusalOfLetters_0 rfl rfl ?_
  refine xr_get X fF_X11_26_10 heo rfl dX11_refusalOfLetters_1 ?_
  refine xr_callV X hto rfl kw_559 kw_560 kw_561 cw_X8_isNone [] (c_X8_isNone hto h6) rfl rfl rfl rfl rfl rfl rfl dX11_refusalOfLetters_4 ?_
  refine xr_if_eq (tgt := 13) X dX11_refusalOfLetters_7 (by decide) (fun _ => ?_) (fun c_7 => absurd (xb_0.mpr (decide_eq_false (by omega))) c_7)
  refine xr_aload_n X 0 dX11_refusalOfLetters_13 rfl rfl ?_
  refine xr_get X fF_X11_12_10 heo rfl dX11_refusalOfLetters_14 ?_
  refine xr_iload_n X 1 dX11_refusalOfLetters_17 rfl rfl ?_
  refine xr_callV X ho rfl kw_218 kw_219 kw_220 cw_X6_isPlace [.int r] c_X6_isPlace rfl rfl rfl rfl rfl rfl rfl dX11_refusalOfLetters_18 ?_
  refine xr_if_eq (tgt := 36) X dX11_refusalOfLetters_21 (by decide) (fun c_21 => absurd c_21 (xb_1.mpr (decide_eq_true (by omega)))) (fun _ => ?_)
  refine xr_iload_n X 3 dX11_refusalOfLetters_24 rfl rfl ?_
  refine xr_iload X 4 dX11_refusalOfLetters_25 rfl ?_
  refine xr_icmp_lt (tgt := 36) X dX11_refusalOfLetters_27 (by decide) (fun c_27 => absurd c_27 (by rw [i32_lt]; omega)) (fun _ => ?_)
  refine xr_iload_n X 3 dX11_refusalOfLetters_30 rfl rfl ?_
  refine xr_iload X 5 dX11_refusalOfLetters_31 rfl ?_
  refine xr_icmp_le (tgt := 39) X dX11_refusalOfLetters_33 (by decide) (fun _ => ?_) (fun c_33 => absurd (by rw [i32_le]; omega) c_33)
  refine xr_aload_n X 0 dX11_refusalOfLetters_39 rfl rfl ?_
  refine xr_get X fF_X11_12_10 heo rfl dX11_refusalOfLetters_40 ?_
  refine xr_iload_n X 1 dX11_refusalOfLetters_43 rfl rfl ?_
  refine xr_callV X ho rfl kw_249 kw_250 kw_251 cw_X6_isMissing [.int r] (c_X6_isMissing ho hsizes hsz hM) rfl rfl rfl rfl rfl rfl rfl dX11_refusalOfLetters_44 ?_
  refine xr_if_eq (tgt := 56) X dX11_refusalOfLetters_47 (by decide) (fun _ => ?_) (fun c_47 => absurd (xb_0.mpr (decide_eq_false (by omega))) c_47)
  refine xr_aload_n X 0 dX11_refusalOfLetters_56 rfl rfl ?_
  refine xr_get X fF_X11_12_10 heo rfl dX11_refusalOfLetters_57 ?_
  refine xr_iload_n X 1 dX11_refusalOfLetters_60 rfl rfl ?_
  refine xr_iload_n X 2 dX11_refusalOfLetters_61 rfl rfl ?_
  refine xr_iload_n X 3 dX11_refusalOfLetters_62 rfl rfl ?_
  refine xr_callV X ho rfl kw_253 kw_254 kw_255 cw_X6_reaches [.int r, .int i, .int n] (c_X6_reaches ho hsizes hsz hM) rfl rfl rfl rfl rfl rfl rfl dX11_refusalOfLetters_63 ?_
  refine xr_if_ne (tgt := 75) X dX11_refusalOfLetters_66 (by decide) (fun c_66 => absurd (xb_0.mpr (decide_eq_false (by omega))) c_66) (fun _ => ?_)
  refine xr_aload_n X 0 dX11_refusalOfLetters_69 rfl rfl ?_
  refine xr_iconst (v := 2) X dX11_refusalOfLetters_70 (by decide) ?_
  refine xr_callV X heo rfl kw_227 kw_229 kw_0 cw_X11_found [.int 2] (c_X11_found heo) rfl rfl rfl rfl rfl rfl rfl dX11_refusalOfLetters_71 ?_
  exact xr_iret X rfl rfl rfl rfl rfl rfl dX11_refusalOfLetters_74
set_option maxRecDepth 100000 in
theorem l_rol {Γ : xΓ} {Ω : xW} {h : xH} {sz : Nat} (X : xX Γ Ω cX11_refusalOfLetters 7 RX11 "refusalOfLetters" (some .int) 5 175 0 0) {e w np : Nat} {ac st d9 b9 m9 : Int32} {lane many sizes item : Nat → Int32} {it : Nat → Nat → Int32} {r i n lo hi : Int32} (heo : h e = some (eO e w ac st)) (hw : w = e + 16) (hto : h w = some (tO w (nI np) d9 b9 m9)) (h6 : np ≤ 6) (ho : h (e + 1) = some (.inr (5, [.ref (e + 2), .ref (e + 11), .ref (e + 12)]))) (hsizes : h (e + 12) = some (.inl (.int, 8, .inl sizes))) (hout : h (e + 2) = some (.inl (.array .int, 8, .inr (.inr (.inr (.inr (xmo (e + 2) 8))))))) (hin : ∀ q, q < 8 → h (e + 3 + q) = some (.inl (.int, 40, .inl (it q)))) (hsz : ∀ q, q < 8 → sizes q = if (lane q).toInt < 0 then -1 else many q) (hM : ∀ q, q < 8 → 0 ≤ (many q).toInt ∧ (many q).toInt ≤ 40) (hIt : ∀ q j, q < 8 → j < 40 → it q j = item (40 * q + j)) (hok : (0 ≤ r.toInt ∧ r.toInt < 8) ∧ lo.toInt ≤ n.toInt ∧ n.toInt ≤ hi.toInt) (hl : ¬ (lane r.toNatClampNeg).toInt < 0) (h2 : ¬ (i.toInt < 0 ∨ (many r.toNatClampNeg).toInt < i.toInt + n.toInt)) (hlo : 0 ≤ lo.toInt) (hhi : hi.toInt ≤ 40) : ∀ (j0 k : Nat), k + j0 = n.toNatClampNeg → allB (setP item (40 * r.toNatClampNeg + i.toNatClampNeg) np) k = true → xG Γ Ω 7 (xQ Γ Ω (some (.int (if allB (setP item (40 * r.toNatClampNeg + i.toNatClampNeg) np) n.toNatClampNeg = true then 0 else -1000001))) h (sz) 0 0) 78 [(6, .int (nI k)), (0, .ref e), (1, .int r), (2, .int i), (3, .int n), (4, .int lo), (5, .int hi)] ([]) h sz 0 0 := by
  intro j0
  induction j0 with
  | zero =>
    intro k hk hinv
    have ek : k = n.toNatClampNeg := by omega
    have tnr := (i32_tn (x := r) (by omega)).2
    have tni := (i32_tn (x := i) (by omega)).2
    have tnn := (i32_tn (x := n) (by omega)).2
    have hMr := hM r.toNatClampNeg (by omega)
    refine xr_iload X 0 dX11_refusalOfLetters_78 rfl ?_
    refine xr_iload_n X 4 dX11_refusalOfLetters_80 rfl rfl ?_
    refine xr_icmp_ge (tgt := 115) X dX11_refusalOfLetters_81 (by decide) (fun _ => ?_) (fun c_81 => absurd (by rw [i32_le, nI_toInt (by omega)]; omega) c_81)
    refine xr_iconst (v := 0) X dX11_refusalOfLetters_115 (by decide) ?_
    exact xr_iret X rfl (xv (if_pos (ek ▸ hinv))) rfl rfl rfl rfl dX11_refusalOfLetters_116
  | succ j0 ih =>
    intro k hk hinv
    have lk : k < n.toNatClampNeg := by omega
    have tnr := (i32_tn (x := r) (by omega)).2
    have tni := (i32_tn (x := i) (by omega)).2
    have tnn := (i32_tn (x := n) (by omega)).2
    have hMr := hM r.toNatClampNeg (by omega)
    refine xr_iload X 0 dX11_refusalOfLetters_78 rfl ?_
    refine xr_iload_n X 4 dX11_refusalOfLetters_80 rfl rfl ?_
    refine xr_icmp_ge (tgt := 115) X dX11_refusalOfLetters_81 (by decide) (fun c_81 => absurd c_81 (by rw [i32_le, nI_toInt (by omega)]; omega)) (fun _ => ?_)
    refine xr_aload_n X 1 dX11_refusalOfLetters_84 rfl rfl ?_
    refine xr_get X fF_X11_26_10 heo rfl dX11_refusalOfLetters_85 ?_
    refine xr_aload_n X 1 dX11_refusalOfLetters_88 rfl rfl ?_
    refine xr_get X fF_X11_12_10 heo rfl dX11_refusalOfLetters_89 ?_
    refine xr_iload_n X 2 dX11_refusalOfLetters_92 rfl rfl ?_
    refine xr_iload_n X 3 dX11_refusalOfLetters_93 rfl rfl ?_
    refine xr_iload X 0 dX11_refusalOfLetters_94 rfl ?_
    refine xr_iadd X dX11_refusalOfLetters_96 ?_
    refine xr_top (y := (nI (i.toNatClampNeg + k))) (by rw [← nI_add, ← (i32_tn (x := i) (by omega)).1]) ?_
    refine xr_callV X ho rfl kw_610 kw_611 kw_612 cw_X6_item [.int r, .int (nI (i.toNatClampNeg + k))] (c_X6_item (lane := lane) (many := many) ho hsizes hout (fun q9 hq9 => (hin q9 hq9)) hsz hM (by omega) (by omega) (by rw [nI_toInt (by omega)]; omega)) rfl rfl rfl rfl rfl rfl rfl dX11_refusalOfLetters_97 ?_
    refine xr_top (y := (item ((40 * r.toNatClampNeg + i.toNatClampNeg) + k))) (by rw [nI_clamp (by omega), hIt _ _ (by omega) (by omega), Nat.add_assoc]) ?_
    refine xr_callV X hto rfl kw_564 kw_565 kw_566 cw_X8_isSet [.int (item ((40 * r.toNatClampNeg + i.toNatClampNeg) + k))] (c_X8_isSet hto h6) rfl rfl rfl rfl rfl rfl rfl dX11_refusalOfLetters_100 ?_
    refine xr_if_ne (tgt := 109) X dX11_refusalOfLetters_103 (by decide) (fun c_103 => ?_) (fun c_103 => ?_)
    · have c_103 := of_decide_eq_true (xb_1.mp c_103)
      (try simp (disch := omega) only [nI_toInt, i32_add, i32_sub, i32_mul, i64_addl, i32_l, k32_0, k32_2, k32_40, k64_0, k64_2, k64_40] at c_103)
      refine xr_iinc (v := nI (k + 1)) (lv' := [(6, .int (nI (k + 1))), (0, .ref e), (1, .int r), (2, .int i), (3, .int n), (4, .int lo), (5, .int hi)]) X 0 dX11_refusalOfLetters_109 rfl (nI_1 _) rfl rfl ?_
      refine xr_goto (tgt := 78) X dX11_refusalOfLetters_112 (by decide) ?_
      exact ih (k + 1) (by omega) (by rw [allB, hinv, Bool.true_and]; exact decide_eq_true (by omega))
    · have c_103 := of_decide_eq_false (xb_0.mp c_103)
      (try simp (disch := omega) only [nI_toInt, i32_add, i32_sub, i32_mul, i64_addl, i32_l, k32_0, k32_2, k32_40, k64_0, k64_2, k64_40] at c_103)
      refine xr_ldc (v := (-1000001)) X kw_226 dX11_refusalOfLetters_106 ?_
      exact xr_iret X rfl (xv (if_neg (by rw [allB_f (k := k) lk (decide_eq_false (by omega))]; decide))) rfl rfl rfl rfl dX11_refusalOfLetters_108
set_option maxRecDepth 100000 in
theorem c_rol_0 {l : Launch} {Ω : xW} {h : xH} {sz : Nat} {e w np : Nat} {ac st d9 b9 m9 : Int32} {lane many sizes item : Nat → Int32} {it : Nat → Nat → Int32} {r i n lo hi : Int32} (heo : h e = some (eO e w ac st)) (hw : w = e + 16) (hto : h w = some (tO w (nI np) d9 b9 m9)) (h6 : np ≤ 6) (ho : h (e + 1) = some (.inr (5, [.ref (e + 2), .ref (e + 11), .ref (e + 12)]))) (hsizes : h (e + 12) = some (.inl (.int, 8, .inl sizes))) (hout : h (e + 2) = some (.inl (.array .int, 8, .inr (.inr (.inr (.inr (xmo (e + 2) 8))))))) (hin : ∀ q, q < 8 → h (e + 3 + q) = some (.inl (.int, 40, .inl (it q)))) (hsz : ∀ q, q < 8 → sizes q = if (lane q).toInt < 0 then -1 else many q) (hM : ∀ q, q < 8 → 0 ≤ (many q).toInt ∧ (many q).toInt ≤ 40) (hIt : ∀ q j, q < 8 → j < 40 → it q j = item (40 * q + j)) (h0 : 0 < np) (hok : (0 ≤ r.toInt ∧ r.toInt < 8) ∧ lo.toInt ≤ n.toInt ∧ n.toInt ≤ hi.toInt) (hl : ¬ (lane r.toNatClampNeg).toInt < 0) (h2 : ¬ (i.toInt < 0 ∨ (many r.toNatClampNeg).toInt < i.toInt + n.toInt)) (hlo : 0 ≤ lo.toInt) (hhi : hi.toInt ≤ 40) : xC l Ω yX11_refusalOfLetters cX11_refusalOfLetters 7 (some .int) 5 0 0 [.ref e, .int r, .int i, .int n, .int lo, .int hi] h sz (some (.int (if allB (setP item (40 * r.toNatClampNeg + i.toNatClampNeg) np) n.toNatClampNeg = true then 0 else -1000001))) h (sz) := by
  refine xC_of (lv := [(0, .ref e), (1, .int r), (2, .int i), (3, .int n), (4, .int lo), (5, .int hi)]) pn_X11 rfl rfl (fun Γ X hΓ hbs => ?_)
  have X : xX Γ Ω cX11_refusalOfLetters 7 RX11 "refusalOfLetters" (some .int) 5 175 0 0 := X
  subst hΓ
  have tnn := (i32_tn (x := n) (by omega)).2
  refine xr_aload_n X 0 dX11_refusalOfLetters_0 rfl rfl ?_
  refine xr_get X fF_X11_26_10 heo rfl dX11_refusalOfLetters_1 ?_
  refine xr_callV X hto rfl kw_559 kw_560 kw_561 cw_X8_isNone [] (c_X8_isNone hto h6) rfl rfl rfl rfl rfl rfl rfl dX11_refusalOfLetters_4 ?_
  refine xr_if_eq (tgt := 13) X dX11_refusalOfLetters_7 (by decide) (fun _ => ?_) (fun c_7 => absurd (xb_0.mpr (decide_eq_false (by omega))) c_7)
  refine xr_aload_n X 0 dX11_refusalOfLetters_13 rfl rfl ?_
  refine xr_get X fF_X11_12_10 heo rfl dX11_refusalOfLetters_14 ?_
  refine xr_iload_n X 1 dX11_refusalOfLetters_17 rfl rfl ?_
  refine xr_callV X ho rfl kw_218 kw_219 kw_220 cw_X6_isPlace [.int r] c_X6_isPlace rfl rfl rfl rfl rfl rfl rfl dX11_refusalOfLetters_18 ?_
  refine xr_if_eq (tgt := 36) X dX11_refusalOfLetters_21 (by decide) (fun c_21 => absurd c_21 (xb_1.mpr (decide_eq_true (by omega)))) (fun _ => ?_)
  refine xr_iload_n X 3 dX11_refusalOfLetters_24 rfl rfl ?_
  refine xr_iload X 4 dX11_refusalOfLetters_25 rfl ?_
  refine xr_icmp_lt (tgt := 36) X dX11_refusalOfLetters_27 (by decide) (fun c_27 => absurd c_27 (by rw [i32_lt]; omega)) (fun _ => ?_)
  refine xr_iload_n X 3 dX11_refusalOfLetters_30 rfl rfl ?_
  refine xr_iload X 5 dX11_refusalOfLetters_31 rfl ?_
  refine xr_icmp_le (tgt := 39) X dX11_refusalOfLetters_33 (by decide) (fun _ => ?_) (fun c_33 => absurd (by rw [i32_le]; omega) c_33)
  refine xr_aload_n X 0 dX11_refusalOfLetters_39 rfl rfl ?_
  refine xr_get X fF_X11_12_10 heo rfl dX11_refusalOfLetters_40 ?_
  refine xr_iload_n X 1 dX11_refusalOfLetters_43 rfl rfl ?_
  refine xr_callV X ho rfl kw_249 kw_250 kw_251 cw_X6_isMissing [.int r] (c_X6_isMissing ho hsizes hsz hM) rfl rfl rfl rfl rfl rfl rfl dX11_refusalOfLetters_44 ?_
  refine xr_if_eq (tgt := 56) X dX11_refusalOfLetters_47 (by decide) (fun _ => ?_) (fun c_47 => absurd (xb_0.mpr (decide_eq_false (by omega))) c_47)
  refine xr_aload_n X 0 dX11_refusalOfLetters_56 rfl rfl ?_
  refine xr_get X fF_X11_12_10 heo rfl dX11_refusalOfLetters_57 ?_
  refine xr_iload_n X 1 dX11_refusalOfLetters_60 rfl rfl ?_
  refine xr_iload_n X 2 dX11_refusalOfLetters_61 rfl rfl ?_
  refine xr_iload_n X 3 dX11_refusalOfLetters_62 rfl rfl ?_
  refine xr_callV X ho rfl kw_253 kw_254 kw_255 cw_X6_reaches [.int r, .int i, .int n] (c_X6_reaches ho hsizes hsz hM) rfl rfl rfl rfl rfl rfl rfl dX11_refusalOfLetters_63 ?_
  refine xr_if_ne (tgt := 75) X dX11_refusalOfLetters_66 (by decide) (fun _ => ?_) (fun c_66 => absurd c_66 (xb_1.mpr (decide_eq_true (by omega))))
  refine xr_iconst (v := 0) X dX11_refusalOfLetters_75 (by decide) ?_
  refine xr_istore (lv' := [(6, .int 0), (0, .ref e), (1, .int r), (2, .int i), (3, .int n), (4, .int lo), (5, .int hi)]) X dX11_refusalOfLetters_76 rfl rfl ?_
  exact l_rol X heo hw hto h6 ho hsizes hout hin hsz hM hIt hok hl h2 hlo hhi n.toNatClampNeg 0 (by omega) rfl
set_option maxRecDepth 100000 in
theorem l_breaks {Γ : xΓ} {Ω : xW} {h : xH} {sz : Nat} (X : xX Γ Ω cX11_breaks 8 RX11 "breaks" (some .int) 6 210 0 0) {e w np day b : Nat} {ac st : Int32} {kd wh mn : Nat → Nat} {fr : Nat → Int32} {lane many sizes item : Nat → Int32} {it : Nat → Nat → Int32} {r i n : Int32} (heo : h e = some (eO e w ac st)) (hw : w = e + 16) (hto : h w = some (tO w (nI np) (nI day) (nI b) (nI (moM kd np)))) (htf : h (w + 2) = some (.inl (.int, 64, .inl fr))) (h6 : np ≤ 6) (hF : frOK fr kd wh mn np) (hb : b < 2 ^ np) (ho : h (e + 1) = some (.inr (5, [.ref (e + 2), .ref (e + 11), .ref (e + 12)]))) (hsizes : h (e + 12) = some (.inl (.int, 8, .inl sizes))) (hout : h (e + 2) = some (.inl (.array .int, 8, .inr (.inr (.inr (.inr (xmo (e + 2) 8))))))) (hin : ∀ q, q < 8 → h (e + 3 + q) = some (.inl (.int, 40, .inl (it q)))) (hsz : ∀ q, q < 8 → sizes q = if (lane q).toInt < 0 then -1 else many q) (hM : ∀ q, q < 8 → 0 ≤ (many q).toInt ∧ (many q).toInt ≤ 40) (hIt : ∀ q j, q < 8 → j < 40 → it q j = item (40 * q + j)) (hok : (0 ≤ r.toInt ∧ r.toInt < 8) ∧ 0 ≤ n.toInt ∧ n.toInt ≤ 40) (hl : ¬ (lane r.toNatClampNeg).toInt < 0) (h2 : ¬ (i.toInt < 0 ∨ (many r.toNatClampNeg).toInt < i.toInt + n.toInt)) (hall : allB (setP item (40 * r.toNatClampNeg + i.toNatClampNeg) np) n.toNatClampNeg = true) : ∀ (j0 k : Nat), k + j0 = n.toNatClampNeg → (∀ q, q < k → brkP kd wh mn np b item (40 * r.toNatClampNeg + i.toNatClampNeg) q = false) → xG Γ Ω 8 (xQ Γ Ω (some (.int (oN (fstB (brkP kd wh mn np b item (40 * r.toNatClampNeg + i.toNatClampNeg)) n.toNatClampNeg)))) (xu h e (.inr (10, [.ref (e + 1), .ref (e + 13), .ref w, .ref (e + 19), .ref (e + 20), .ref (e + 28), .ref (e + 30), .int (ac), .int (0)]))) (sz) 0 0) 32 [(6, .int (nI k)), (5, .int (nI (befN item (40 * r.toNatClampNeg + i.toNatClampNeg) b k))), (0, .ref e), (1, .int r), (2, .int i), (3, .int n)] ([]) h sz 0 0 := by
  intro j0
  induction j0 with
  | zero =>
    intro k hk hinv
    have ek : k = n.toNatClampNeg := by omega
    have h64 := pw_le h6
    have tnr := (i32_tn (x := r) (by omega)).2
    have tni := (i32_tn (x := i) (by omega)).2
    have tnn := (i32_tn (x := n) (by omega)).2
    have hMr := hM r.toNatClampNeg (by omega)
    refine xr_iload X 0 dX11_breaks_32 rfl ?_
    refine xr_iload_n X 5 dX11_breaks_34 rfl rfl ?_
    refine xr_icmp_ge (tgt := 83) X dX11_breaks_35 (by decide) (fun _ => ?_) (fun c_35 => absurd (by rw [i32_le, nI_toInt (by omega)]; omega) c_35)
    refine xr_aload_n X 2 dX11_breaks_83 rfl rfl ?_
    refine xr_ldc (v := (-1000000)) X kw_727 dX11_breaks_84 ?_
    refine xr_callV X heo rfl kw_241 kw_243 kw_1 cw_X11_fine [.int (-1000000)] (c_X11_fine heo) rfl rfl rfl rfl rfl rfl rfl dX11_breaks_86 ?_
    exact xr_iret X rfl (by rw [fstB_none (fun q hq => hinv q (by omega))]; rfl) rfl rfl rfl rfl dX11_breaks_89
  | succ j0 ih =>
    intro k hk hinv
    have lk : k < n.toNatClampNeg := by omega
    have h64 := pw_le h6
    have tnr := (i32_tn (x := r) (by omega)).2
    have tni := (i32_tn (x := i) (by omega)).2
    have tnn := (i32_tn (x := n) (by omega)).2
    have hMr := hM r.toNatClampNeg (by omega)
    have hlet := letN_ok hall lk
    have hbef := befN_lt (kd := kd) (wh := wh) (mn := mn) hb hall (Nat.le_of_lt lk)
    refine xr_iload X 0 dX11_breaks_32 rfl ?_
    refine xr_iload_n X 5 dX11_breaks_34 rfl rfl ?_
    refine xr_icmp_ge (tgt := 83) X dX11_breaks_35 (by decide) (fun c_35 => absurd c_35 (by rw [i32_le, nI_toInt (by omega)]; omega)) (fun _ => ?_)
    refine xr_aload_n X 2 dX11_breaks_38 rfl rfl ?_
    refine xr_get X fF_X11_12_10 heo rfl dX11_breaks_39 ?_
    refine xr_iload_n X 3 dX11_breaks_42 rfl rfl ?_
    refine xr_iload_n X 4 dX11_breaks_43 rfl rfl ?_
    refine xr_iload X 0 dX11_breaks_44 rfl ?_
    refine xr_iadd X dX11_breaks_46 ?_
    refine xr_top (y := (nI (i.toNatClampNeg + k))) (by rw [← nI_add, ← (i32_tn (x := i) (by omega)).1]) ?_
    refine xr_callV X ho rfl kw_610 kw_611 kw_612 cw_X6_item [.int r, .int (nI (i.toNatClampNeg + k))] (c_X6_item (lane := lane) (many := many) ho hsizes hout (fun q9 hq9 => (hin q9 hq9)) hsz hM (by omega) (by omega) (by rw [nI_toInt (by omega)]; omega)) rfl rfl rfl rfl rfl rfl rfl dX11_breaks_47 ?_
    refine xr_top (y := (item ((40 * r.toNatClampNeg + i.toNatClampNeg) + k))) (by rw [nI_clamp (by omega), hIt _ _ (by omega) (by omega), Nat.add_assoc]) ?_
    refine xr_top (y := (nI (letN item (40 * r.toNatClampNeg + i.toNatClampNeg) k))) hlet.1 ?_
    refine xr_istore (lv' := [(7, .int (nI (letN item (40 * r.toNatClampNeg + i.toNatClampNeg) k))), (6, .int (nI k)), (5, .int (nI (befN item (40 * r.toNatClampNeg + i.toNatClampNeg) b k))), (0, .ref e), (1, .int r), (2, .int i), (3, .int n)]) X dX11_breaks_50 rfl rfl ?_
    refine xr_aload_n X 3 dX11_breaks_52 rfl rfl ?_
    refine xr_get X fF_X11_26_10 heo rfl dX11_breaks_53 ?_
    refine xr_iload X 0 dX11_breaks_56 rfl ?_
    refine xr_iload X 2 dX11_breaks_58 rfl ?_
    refine xr_callV X hto rfl kw_741 kw_573 kw_574 cw_X8_agreesAfter [.int (nI (letN item (40 * r.toNatClampNeg + i.toNatClampNeg) k)), .int (nI (befN item (40 * r.toNatClampNeg + i.toNatClampNeg) b k))] (c_X8_agreesAfter hto htf h6 hF (by omega)) rfl rfl rfl rfl rfl rfl rfl dX11_breaks_60 ?_
    refine xr_if_ne (tgt := 73) X dX11_breaks_63 (by decide) (fun c_63 => ?_) (fun c_63 => ?_)
    · have c_63 := xb_1.mp c_63
      refine xr_iload X 0 dX11_breaks_73 rfl ?_
      refine xr_istore (lv' := [(5, .int (nI (letN item (40 * r.toNatClampNeg + i.toNatClampNeg) k))), (7, .int (nI (letN item (40 * r.toNatClampNeg + i.toNatClampNeg) k))), (6, .int (nI k)), (0, .ref e), (1, .int r), (2, .int i), (3, .int n)]) X dX11_breaks_75 rfl rfl ?_
      refine xr_iinc (v := nI (k + 1)) (lv' := [(6, .int (nI (k + 1))), (5, .int (nI (letN item (40 * r.toNatClampNeg + i.toNatClampNeg) k))), (7, .int (nI (letN item (40 * r.toNatClampNeg + i.toNatClampNeg) k))), (0, .ref e), (1, .int r), (2, .int i), (3, .int n)]) X 2 dX11_breaks_77 rfl (nI_1 _) rfl rfl ?_
      refine xr_goto (tgt := 32) X dX11_breaks_80 (by decide) ?_
      refine xr_locs (lv' := [(6, .int (nI (k + 1))), (5, .int (nI (letN item (40 * r.toNatClampNeg + i.toNatClampNeg) k))), (0, .ref e), (1, .int r), (2, .int i), (3, .int n)]) [0, 1, 3, 4, 5, 6] rfl ?_
      refine xr_lve (lv' := [(6, .int (nI (k + 1))), (5, .int (nI (befN item (40 * r.toNatClampNeg + i.toNatClampNeg) b (k + 1)))), (0, .ref e), (1, .int r), (2, .int i), (3, .int n)]) (rfl) ?_
      exact ih (k + 1) (by omega) (inv_s hinv (by rw [brkP, c_63]; rfl))
    · have c_63 := xb_0.mp c_63
      refine xr_aload_n X 3 dX11_breaks_66 rfl rfl ?_
      refine xr_iload X 1 dX11_breaks_67 rfl ?_
      refine xr_callV X heo rfl kw_241 kw_243 kw_1 cw_X11_fine [.int (nI k)] (c_X11_fine heo) rfl rfl rfl rfl rfl rfl rfl dX11_breaks_69 ?_
      exact xr_iret X rfl (by rw [fstB_some (show brkP kd wh mn np b item (40 * r.toNatClampNeg + i.toNatClampNeg) k = true by rw [brkP, c_63]; rfl) hinv lk]; rfl) rfl rfl rfl rfl dX11_breaks_72
set_option maxRecDepth 100000 in
theorem c_X11_breaks {l : Launch} {Ω : xW} {h : xH} {sz : Nat} {e w np day b : Nat} {ac st : Int32} {kd wh mn : Nat → Nat} {fr : Nat → Int32} {lane many sizes item : Nat → Int32} {it : Nat → Nat → Int32} {r i n : Int32} (heo : h e = some (eO e w ac st)) (hw : w = e + 16) (hto : h w = some (tO w (nI np) (nI day) (nI b) (nI (moM kd np)))) (htf : h (w + 2) = some (.inl (.int, 64, .inl fr))) (h6 : np ≤ 6) (hF : frOK fr kd wh mn np) (hb : b < 2 ^ np) (ho : h (e + 1) = some (.inr (5, [.ref (e + 2), .ref (e + 11), .ref (e + 12)]))) (hsizes : h (e + 12) = some (.inl (.int, 8, .inl sizes))) (hout : h (e + 2) = some (.inl (.array .int, 8, .inr (.inr (.inr (.inr (xmo (e + 2) 8))))))) (hin : ∀ q, q < 8 → h (e + 3 + q) = some (.inl (.int, 40, .inl (it q)))) (hsz : ∀ q, q < 8 → sizes q = if (lane q).toInt < 0 then -1 else many q) (hM : ∀ q, q < 8 → 0 ≤ (many q).toInt ∧ (many q).toInt ≤ 40) (hIt : ∀ q j, q < 8 → j < 40 → it q j = item (40 * q + j)) : xC l Ω yX11_breaks cX11_breaks 8 (some .int) 6 0 0 [.ref e, .int r, .int i, .int n] h sz (some (.int (a_breaks kd wh mn np b lane many item r i n))) (if 0 < np then (if (0 ≤ r.toInt ∧ r.toInt < 8) ∧ 0 ≤ n.toInt ∧ n.toInt ≤ 40 then (if (lackF lane many r i n).toInt ≤ 0 then (if allB (setP item (40 * r.toNatClampNeg + i.toNatClampNeg) np) n.toNatClampNeg = true then (xu h e (.inr (10, [.ref (e + 1), .ref (e + 13), .ref w, .ref (e + 19), .ref (e + 20), .ref (e + 28), .ref (e + 30), .int (ac), .int (0)]))) else h) else (xu h e (.inr (10, [.ref (e + 1), .ref (e + 13), .ref w, .ref (e + 19), .ref (e + 20), .ref (e + 28), .ref (e + 30), .int (ac), .int (lackF lane many r i n)])))) else h) else h) (sz) := by
  refine xC_of (lv := [(0, .ref e), (1, .int r), (2, .int i), (3, .int n)]) pn_X11 rfl rfl (fun Γ X hΓ hbs => ?_)
  have X : xX Γ Ω cX11_breaks 8 RX11 "breaks" (some .int) 6 210 0 0 := X
  subst hΓ
  have h64 := pw_le h6
  refine xr_aload_n X 0 dX11_breaks_0 rfl rfl ?_
  refine xr_iload_n X 1 dX11_breaks_1 rfl rfl ?_
  refine xr_iload_n X 2 dX11_breaks_2 rfl rfl ?_
  refine xr_iload_n X 3 dX11_breaks_3 rfl rfl ?_
  refine xr_iconst (v := 0) X dX11_breaks_4 (by decide) ?_
  refine xr_bipush (v := 40) X dX11_breaks_5 (by decide) ?_
  by_cases h0 : np = 0
  · refine xr_callV X heo rfl kw_606 kw_608 kw_14 cw_X11_refusalOfLetters [.int r, .int i, .int n, .int 0, .int 40] (c_rol_S (lo := 0) (hi := 40) heo hw hto h6 ho hsizes hout hin hsz hM hIt h0) rfl rfl rfl rfl rfl rfl rfl dX11_breaks_7 ?_
    refine xr_istore (lv' := [(4, .int (-1000002)), (0, .ref e), (1, .int r), (2, .int i), (3, .int n)]) X dX11_breaks_10 rfl rfl ?_
    refine xr_iload X 0 dX11_breaks_12 rfl ?_
    refine xr_if_eq (tgt := 20) X dX11_breaks_14 (by decide) (fun c_14 => absurd c_14 (by decide)) (fun _ => ?_)
    refine xr_iload X 0 dX11_breaks_17 rfl ?_
    exact xr_iret X rfl (xv (if_neg (by omega))) ((if_neg (by omega)).symm) rfl rfl rfl dX11_breaks_19
  have h0 : 0 < np := by omega
  by_cases hok : (0 ≤ r.toInt ∧ r.toInt < 8) ∧ 0 ≤ n.toInt ∧ n.toInt ≤ 40
  rotate_left
  · refine xr_callV X heo rfl kw_606 kw_608 kw_14 cw_X11_refusalOfLetters [.int r, .int i, .int n, .int 0, .int 40] (c_rol_B (lo := 0) (hi := 40) heo hw hto h6 ho hsizes hout hin hsz hM hIt h0 hok) rfl rfl rfl rfl rfl rfl rfl dX11_breaks_7 ?_
    refine xr_istore (lv' := [(4, .int (-1000001)), (0, .ref e), (1, .int r), (2, .int i), (3, .int n)]) X dX11_breaks_10 rfl rfl ?_
    refine xr_iload X 0 dX11_breaks_12 rfl ?_
    refine xr_if_eq (tgt := 20) X dX11_breaks_14 (by decide) (fun c_14 => absurd c_14 (by decide)) (fun _ => ?_)
    refine xr_iload X 0 dX11_breaks_17 rfl ?_
    exact xr_iret X rfl (xv ((if_pos h0).trans (if_neg hok))) (((if_pos h0).trans (if_neg hok)).symm) rfl rfl rfl dX11_breaks_19
  have hok2 : (0 ≤ r.toInt ∧ r.toInt < 8) ∧ (0 : Int32).toInt ≤ n.toInt ∧ n.toInt ≤ (40 : Int32).toInt := hok
  have tnr := (i32_tn (x := r) (by omega)).2
  have hMr := hM r.toNatClampNeg (by omega)
  have tnn := (i32_tn (x := n) (by omega)).2
  by_cases hl : (lane r.toNatClampNeg).toInt < 0
  · refine xr_callV X heo rfl kw_606 kw_608 kw_14 cw_X11_refusalOfLetters [.int r, .int i, .int n, .int 0, .int 40] (c_rol_1 (lo := 0) (hi := 40) heo hw hto h6 ho hsizes hout hin hsz hM hIt h0 hok2 hl) rfl rfl rfl rfl rfl rfl rfl dX11_breaks_7 ?_
    refine xr_istore (lv' := [(4, .int ((-1000010) - 1)), (0, .ref e), (1, .int r), (2, .int i), (3, .int n)]) X dX11_breaks_10 rfl rfl ?_
    refine xr_iload X 0 dX11_breaks_12 rfl ?_
    refine xr_if_eq (tgt := 20) X dX11_breaks_14 (by decide) (fun c_14 => absurd c_14 (by decide)) (fun _ => ?_)
    refine xr_iload X 0 dX11_breaks_17 rfl ?_
    exact xr_iret X rfl (xv (by rw [a_breaks, if_pos h0, if_pos hok, if_neg (by rw [lackF_1 hl]; decide), lackF_1 hl])) (by rw [if_pos h0, if_pos hok, if_neg (by rw [lackF_1 hl]; decide), lackF_1 hl]) rfl rfl rfl dX11_breaks_19
  by_cases h2 : i.toInt < 0 ∨ (many r.toNatClampNeg).toInt < i.toInt + n.toInt
  · refine xr_callV X heo rfl kw_606 kw_608 kw_14 cw_X11_refusalOfLetters [.int r, .int i, .int n, .int 0, .int 40] (c_rol_2 (lo := 0) (hi := 40) heo hw hto h6 ho hsizes hout hin hsz hM hIt h0 hok2 hl h2 (by decide) (by decide)) rfl rfl rfl rfl rfl rfl rfl dX11_breaks_7 ?_
    refine xr_istore (lv' := [(4, .int ((-1000010) - 2)), (0, .ref e), (1, .int r), (2, .int i), (3, .int n)]) X dX11_breaks_10 rfl rfl ?_
    refine xr_iload X 0 dX11_breaks_12 rfl ?_
    refine xr_if_eq (tgt := 20) X dX11_breaks_14 (by decide) (fun c_14 => absurd c_14 (by decide)) (fun _ => ?_)
    refine xr_iload X 0 dX11_breaks_17 rfl ?_
    exact xr_iret X rfl (xv (by rw [a_breaks, if_pos h0, if_pos hok, if_neg (by rw [lackF_2 hl h2]; decide), lackF_2 hl h2])) (by rw [if_pos h0, if_pos hok, if_neg (by rw [lackF_2 hl h2]; decide), lackF_2 hl h2]) rfl rfl rfl dX11_breaks_19
  have tni := (i32_tn (x := i) (by omega)).2
  have hlk0 := lackF_0 hl h2
  by_cases hall : allB (setP item (40 * r.toNatClampNeg + i.toNatClampNeg) np) n.toNatClampNeg = true
  rotate_left
  · refine xr_callV X heo rfl kw_606 kw_608 kw_14 cw_X11_refusalOfLetters [.int r, .int i, .int n, .int 0, .int 40] (c_rol_0 (lo := 0) (hi := 40) heo hw hto h6 ho hsizes hout hin hsz hM hIt h0 hok2 hl h2 (by decide) (by decide)) rfl rfl rfl rfl rfl rfl rfl dX11_breaks_7 ?_
    refine xr_top (y := (-1000001)) (if_neg hall) ?_
    refine xr_istore (lv' := [(4, .int (-1000001)), (0, .ref e), (1, .int r), (2, .int i), (3, .int n)]) X dX11_breaks_10 rfl rfl ?_
    refine xr_iload X 0 dX11_breaks_12 rfl ?_
    refine xr_if_eq (tgt := 20) X dX11_breaks_14 (by decide) (fun c_14 => absurd c_14 (by decide)) (fun _ => ?_)
    refine xr_iload X 0 dX11_breaks_17 rfl ?_
    exact xr_iret X rfl (xv ((((if_pos h0).trans (if_pos hok)).trans (if_pos (by rw [hlk0]; decide))).trans (if_neg hall))) (((((if_pos h0).trans (if_pos hok)).trans (if_pos (by rw [hlk0]; decide))).trans (if_neg hall)).symm) rfl rfl rfl dX11_breaks_19
  refine xr_callV X heo rfl kw_606 kw_608 kw_14 cw_X11_refusalOfLetters [.int r, .int i, .int n, .int 0, .int 40] (c_rol_0 (lo := 0) (hi := 40) heo hw hto h6 ho hsizes hout hin hsz hM hIt h0 hok2 hl h2 (by decide) (by decide)) rfl rfl rfl rfl rfl rfl rfl dX11_breaks_7 ?_
  refine xr_top (y := 0) (if_pos hall) ?_
  refine xr_istore (lv' := [(4, .int 0), (0, .ref e), (1, .int r), (2, .int i), (3, .int n)]) X dX11_breaks_10 rfl rfl ?_
  refine xr_iload X 0 dX11_breaks_12 rfl ?_
  refine xr_if_eq (tgt := 20) X dX11_breaks_14 (by decide) (fun _ => ?_) (fun c_14 => absurd rfl c_14)
  refine xr_aload_n X 1 dX11_breaks_20 rfl rfl ?_
  refine xr_get X fF_X11_26_10 heo rfl dX11_breaks_21 ?_
  refine xr_callV X hto rfl kw_594 kw_595 kw_596 cw_X8_before [] (c_X8_before hto) rfl rfl rfl rfl rfl rfl rfl dX11_breaks_24 ?_
  refine xr_istore (lv' := [(5, .int (nI b)), (4, .int 0), (0, .ref e), (1, .int r), (2, .int i), (3, .int n)]) X dX11_breaks_27 rfl rfl ?_
  refine xr_iconst (v := 0) X dX11_breaks_29 (by decide) ?_
  refine xr_istore (lv' := [(6, .int 0), (5, .int (nI b)), (4, .int 0), (0, .ref e), (1, .int r), (2, .int i), (3, .int n)]) X dX11_breaks_30 rfl rfl ?_
  rw [show a_breaks kd wh mn np b lane many item r i n = _ from (((if_pos h0).trans (if_pos hok)).trans (if_pos (by rw [hlk0]; decide))).trans (if_pos hall), if_pos h0, if_pos hok, if_pos (by rw [hlk0]; decide), if_pos hall]
  refine xr_locs (lv' := [(6, .int 0), (5, .int (nI b)), (0, .ref e), (1, .int r), (2, .int i), (3, .int n)]) [0, 1, 3, 4, 5, 6] rfl ?_
  exact l_breaks X heo hw hto htf h6 hF hb ho hsizes hout hin hsz hM hIt hok hl h2 hall n.toNatClampNeg 0 (by omega) (fun q hq => by omega)
  
set_option maxRecDepth 100000 in
theorem l_posts {Γ : xΓ} {Ω : xW} {h : xH} {sz : Nat} (X : xX Γ Ω cX11_posts 6 RX11 "posts" (some .int) 6 210 0 0) {e w np day b : Nat} {u : Nat → Int32} {a : Nat} {st : Int32} {kd wh mn : Nat → Nat} {fr : Nat → Int32} {lane many sizes item : Nat → Int32} {it : Nat → Nat → Int32} {r i n : Int32} (heo : h e = some (eO e w (nI a) st)) (hw : w = e + 16) (hu : h (e + 30) = some (.inl (.int, 24, .inl u))) (hto : h w = some (tO w (nI np) (nI day) (nI b) (nI (moM kd np)))) (htf : h (w + 2) = some (.inl (.int, 64, .inl fr))) (h6 : np ≤ 6) (hF : frOK fr kd wh mn np) (hb : b < 2 ^ np) (ho : h (e + 1) = some (.inr (5, [.ref (e + 2), .ref (e + 11), .ref (e + 12)]))) (hsizes : h (e + 12) = some (.inl (.int, 8, .inl sizes))) (hout : h (e + 2) = some (.inl (.array .int, 8, .inr (.inr (.inr (.inr (xmo (e + 2) 8))))))) (hin : ∀ q, q < 8 → h (e + 3 + q) = some (.inl (.int, 40, .inl (it q)))) (hsz : ∀ q, q < 8 → sizes q = if (lane q).toInt < 0 then -1 else many q) (hM : ∀ q, q < 8 → 0 ≤ (many q).toInt ∧ (many q).toInt ≤ 40) (hIt : ∀ q j, q < 8 → j < 40 → it q j = item (40 * q + j)) (ha : a ≤ 24) (hday : day ≤ 9999) (hok : (0 ≤ r.toInt ∧ r.toInt < 8) ∧ 1 ≤ n.toInt ∧ n.toInt ≤ 24) (hl : ¬ (lane r.toNatClampNeg).toInt < 0) (h2 : ¬ (i.toInt < 0 ∨ (many r.toNatClampNeg).toInt < i.toInt + n.toInt)) (hall : allB (setP item (40 * r.toNatClampNeg + i.toNatClampNeg) np) n.toNatClampNeg = true) : ∀ (j0 k : Nat), k + j0 = n.toNatClampNeg → (∀ q, q < k → brkP kd wh mn np b item (40 * r.toNatClampNeg + i.toNatClampNeg) q = false) → xG Γ Ω 6 (xQ Γ Ω (some (.int (nI (kst kd wh mn np b item (40 * r.toNatClampNeg + i.toNatClampNeg) n.toNatClampNeg)))) (xu (xu (xu h (e + 30) (.inl (.int, 24, .inl ((uS u a b item (40 * r.toNatClampNeg + i.toNatClampNeg) (kst kd wh mn np b item (40 * r.toNatClampNeg + i.toNatClampNeg) n.toNatClampNeg)).1)))) e (.inr (10, [.ref (e + 1), .ref (e + 13), .ref w, .ref (e + 19), .ref (e + 20), .ref (e + 28), .ref (e + 30), .int (nI (uS u a b item (40 * r.toNatClampNeg + i.toNatClampNeg) (kst kd wh mn np b item (40 * r.toNatClampNeg + i.toNatClampNeg) n.toNatClampNeg)).2), .int (0)]))) w (.inr (7, [.ref (w + 1), .int (nI np), .int (nI (day + (kst kd wh mn np b item (40 * r.toNatClampNeg + i.toNatClampNeg) n.toNatClampNeg))), .int (nI (befN item (40 * r.toNatClampNeg + i.toNatClampNeg) b (kst kd wh mn np b item (40 * r.toNatClampNeg + i.toNatClampNeg) n.toNatClampNeg))), .ref (w + 2), .int (nI (moM kd np))]))) (sz) 0 0) 41 [(5, .int (nI k)), (0, .ref e), (1, .int r), (2, .int i), (3, .int n)] ([]) (xu (xu (xu h (e + 30) (.inl (.int, 24, .inl ((uS u a b item (40 * r.toNatClampNeg + i.toNatClampNeg) k).1)))) e (.inr (10, [.ref (e + 1), .ref (e + 13), .ref w, .ref (e + 19), .ref (e + 20), .ref (e + 28), .ref (e + 30), .int (nI (uS u a b item (40 * r.toNatClampNeg + i.toNatClampNeg) k).2), .int (st)]))) w (.inr (7, [.ref (w + 1), .int (nI np), .int (nI (day + k)), .int (nI (befN item (40 * r.toNatClampNeg + i.toNatClampNeg) b k)), .ref (w + 2), .int (nI (moM kd np))]))) sz 0 0 := by
  intro j0
  induction j0 with
  | zero =>
    intro k hk hinv
    have ek : k = n.toNatClampNeg := by omega
    have h64 := pw_le h6
    have tnr := (i32_tn (x := r) (by omega)).2
    have tni := (i32_tn (x := i) (by omega)).2
    have tnn := (i32_tn (x := n) (by omega)).2
    have hMr := hM r.toNatClampNeg (by omega)
    refine xr_iload X 0 dX11_posts_41 rfl ?_
    refine xr_iload_n X 4 dX11_posts_43 rfl rfl ?_
    refine xr_icmp_ge (tgt := 91) X dX11_posts_44 (by decide) (fun _ => ?_) (fun c_44 => absurd (by rw [i32_le, nI_toInt (by omega)]; omega) c_44)
    refine xr_aload_n X 1 dX11_posts_91 rfl rfl ?_
    refine xr_iload X 0 dX11_posts_92 rfl ?_
    refine xr_callV X (xu_at (by omega) (xu_s _ _ _)) rfl kw_241 kw_243 kw_1 cw_X11_fine [.int (nI k)] (c_X11_fine (xu_at (by omega) (xu_s _ _ _))) rfl rfl rfl rfl rfl rfl rfl dX11_posts_94 ?_
    refine xr_heap (h' := (xu (xu (xu h (e + 30) (.inl (.int, 24, .inl ((uS u a b item (40 * r.toNatClampNeg + i.toNatClampNeg) k).1)))) e (.inr (10, [.ref (e + 1), .ref (e + 13), .ref w, .ref (e + 19), .ref (e + 20), .ref (e + 28), .ref (e + 30), .int (nI (uS u a b item (40 * r.toNatClampNeg + i.toNatClampNeg) k).2), .int (0)]))) w (.inr (7, [.ref (w + 1), .int (nI np), .int (nI (day + k)), .int (nI (befN item (40 * r.toNatClampNeg + i.toNatClampNeg) b k)), .ref (w + 2), .int (nI (moM kd np))])))) (xu_in (by omega) (xu_uu _ _ _ _)) ?_
    exact xr_iret X rfl (by rw [kst_all (fun q hq => hinv q (by omega)), ek]) (by rw [kst_all (fun q hq => hinv q (by omega)), ek]) rfl rfl rfl dX11_posts_97
  | succ j0 ih =>
    intro k hk hinv
    have lk : k < n.toNatClampNeg := by omega
    have h64 := pw_le h6
    have tnr := (i32_tn (x := r) (by omega)).2
    have tni := (i32_tn (x := i) (by omega)).2
    have tnn := (i32_tn (x := n) (by omega)).2
    have hMr := hM r.toNatClampNeg (by omega)
    have hlet := letN_ok hall lk
    have hbef := befN_lt (kd := kd) (wh := wh) (mn := mn) hb hall (Nat.le_of_lt lk)
    refine xr_iload X 0 dX11_posts_41 rfl ?_
    refine xr_iload_n X 4 dX11_posts_43 rfl rfl ?_
    refine xr_icmp_ge (tgt := 91) X dX11_posts_44 (by decide) (fun c_44 => absurd c_44 (by rw [i32_le, nI_toInt (by omega)]; omega)) (fun _ => ?_)
    refine xr_aload_n X 1 dX11_posts_47 rfl rfl ?_
    refine xr_get X fF_X11_26_10 (xu_at (by omega) (xu_s _ _ _)) rfl dX11_posts_48 ?_
    refine xr_aload_n X 1 dX11_posts_51 rfl rfl ?_
    refine xr_get X fF_X11_12_10 (xu_at (by omega) (xu_s _ _ _)) rfl dX11_posts_52 ?_
    refine xr_iload_n X 2 dX11_posts_55 rfl rfl ?_
    refine xr_iload_n X 3 dX11_posts_56 rfl rfl ?_
    refine xr_iload X 0 dX11_posts_57 rfl ?_
    refine xr_iadd X dX11_posts_59 ?_
    refine xr_top (y := (nI (i.toNatClampNeg + k))) (by rw [← nI_add, ← (i32_tn (x := i) (by omega)).1]) ?_
    refine xr_callV X (xu_at (by omega) (xu_at (xn1 _ rfl) (xu_at (xne _ rfl) ho))) rfl kw_610 kw_611 kw_612 cw_X6_item [.int r, .int (nI (i.toNatClampNeg + k))] (c_X6_item (lane := lane) (many := many) (xu_at (by omega) (xu_at (xn1 _ rfl) (xu_at (xne _ rfl) ho))) (xu_at (by omega) (xu_at (xn1 _ rfl) (xu_at (xne _ rfl) hsizes))) (xu_at (by omega) (xu_at (xn1 _ rfl) (xu_at (xne _ rfl) hout))) (fun q9 hq9 => (xu_at (by omega) (xu_at (by omega) (xu_at (by omega) (hin q9 hq9))))) hsz hM (by omega) (by omega) (by rw [nI_toInt (by omega)]; omega)) rfl rfl rfl rfl rfl rfl rfl dX11_posts_60 ?_
    refine xr_top (y := (item ((40 * r.toNatClampNeg + i.toNatClampNeg) + k))) (by rw [nI_clamp (by omega), hIt _ _ (by omega) (by omega), Nat.add_assoc]) ?_
    refine xr_top (y := (nI (letN item (40 * r.toNatClampNeg + i.toNatClampNeg) k))) hlet.1 ?_
    refine xr_callV X (xu_s _ _ _) rfl kw_568 kw_569 kw_570 cw_X8_agrees [.int (nI (letN item (40 * r.toNatClampNeg + i.toNatClampNeg) k))] (c_X8_agrees (day := day + k) (b := befN item (40 * r.toNatClampNeg + i.toNatClampNeg) b k) (xu_s _ _ _) (xu_at (xn1 _ rfl) (xu_at (by omega) (xu_at (by omega) htf))) h6 hF (by omega)) rfl rfl rfl rfl rfl rfl rfl dX11_posts_63 ?_
    refine xr_if_eq (tgt := 91) X dX11_posts_66 (by decide) (fun c_66 => ?_) (fun c_66 => ?_)
    · have c_66 := xb_0.mp c_66
      refine xr_aload_n X 1 dX11_posts_91 rfl rfl ?_
      refine xr_iload X 0 dX11_posts_92 rfl ?_
      refine xr_callV X (xu_at (by omega) (xu_s _ _ _)) rfl kw_241 kw_243 kw_1 cw_X11_fine [.int (nI k)] (c_X11_fine (xu_at (by omega) (xu_s _ _ _))) rfl rfl rfl rfl rfl rfl rfl dX11_posts_94 ?_
      refine xr_heap (h' := (xu (xu (xu h (e + 30) (.inl (.int, 24, .inl ((uS u a b item (40 * r.toNatClampNeg + i.toNatClampNeg) k).1)))) e (.inr (10, [.ref (e + 1), .ref (e + 13), .ref w, .ref (e + 19), .ref (e + 20), .ref (e + 28), .ref (e + 30), .int (nI (uS u a b item (40 * r.toNatClampNeg + i.toNatClampNeg) k).2), .int (0)]))) w (.inr (7, [.ref (w + 1), .int (nI np), .int (nI (day + k)), .int (nI (befN item (40 * r.toNatClampNeg + i.toNatClampNeg) b k)), .ref (w + 2), .int (nI (moM kd np))])))) (xu_in (by omega) (xu_uu _ _ _ _)) ?_
      exact xr_iret X rfl (by rw [kst_at (show brkP kd wh mn np b item (40 * r.toNatClampNeg + i.toNatClampNeg) k = true by rw [brkP, c_66]; rfl) hinv lk]) (by rw [kst_at (show brkP kd wh mn np b item (40 * r.toNatClampNeg + i.toNatClampNeg) k = true by rw [brkP, c_66]; rfl) hinv lk]) rfl rfl rfl dX11_posts_97
    · have c_66 := xb_1.mp c_66
      refine xr_aload_n X 1 dX11_posts_69 rfl rfl ?_
      refine xr_aload_n X 1 dX11_posts_70 rfl rfl ?_
      refine xr_get X fF_X11_12_10 (xu_at (by omega) (xu_s _ _ _)) rfl dX11_posts_71 ?_
      refine xr_iload_n X 2 dX11_posts_74 rfl rfl ?_
      refine xr_iload_n X 3 dX11_posts_75 rfl rfl ?_
      refine xr_iload X 0 dX11_posts_76 rfl ?_
      refine xr_iadd X dX11_posts_78 ?_
      refine xr_top (y := (nI (i.toNatClampNeg + k))) (by rw [← nI_add, ← (i32_tn (x := i) (by omega)).1]) ?_
      refine xr_callV X (xu_at (by omega) (xu_at (xn1 _ rfl) (xu_at (xne _ rfl) ho))) rfl kw_610 kw_611 kw_612 cw_X6_item [.int r, .int (nI (i.toNatClampNeg + k))] (c_X6_item (lane := lane) (many := many) (xu_at (by omega) (xu_at (xn1 _ rfl) (xu_at (xne _ rfl) ho))) (xu_at (by omega) (xu_at (xn1 _ rfl) (xu_at (xne _ rfl) hsizes))) (xu_at (by omega) (xu_at (xn1 _ rfl) (xu_at (xne _ rfl) hout))) (fun q9 hq9 => (xu_at (by omega) (xu_at (by omega) (xu_at (by omega) (hin q9 hq9))))) hsz hM (by omega) (by omega) (by rw [nI_toInt (by omega)]; omega)) rfl rfl rfl rfl rfl rfl rfl dX11_posts_79 ?_
      refine xr_top (y := (item ((40 * r.toNatClampNeg + i.toNatClampNeg) + k))) (by rw [nI_clamp (by omega), hIt _ _ (by omega) (by omega), Nat.add_assoc]) ?_
      refine xr_top (y := (nI (letN item (40 * r.toNatClampNeg + i.toNatClampNeg) k))) hlet.1 ?_
      refine xr_callV X (xu_at (by omega) (xu_s _ _ _)) rfl kw_589 kw_591 kw_13 cw_X11_act [.int (nI (letN item (40 * r.toNatClampNeg + i.toNatClampNeg) k))] (c_X11_act (a := (uS u a b item (40 * r.toNatClampNeg + i.toNatClampNeg) k).2) (xu_at (by omega) (xu_s _ _ _)) hw (xu_at (by omega) (xu_at (xn1 _ rfl) (xu_s _ _ _))) (xu_s _ _ _) (uS_le ha k)) rfl rfl rfl rfl rfl rfl rfl dX11_posts_82 ?_
      refine xr_heap (h' := (xu (xu (xu h (e + 30) (.inl (.int, 24, .inl (keepU (uS u a b item (40 * r.toNatClampNeg + i.toNatClampNeg) k).1 (uS u a b item (40 * r.toNatClampNeg + i.toNatClampNeg) k).2 (nI (befN item (40 * r.toNatClampNeg + i.toNatClampNeg) b k)))))) e (.inr (10, [.ref (e + 1), .ref (e + 13), .ref w, .ref (e + 19), .ref (e + 20), .ref (e + 28), .ref (e + 30), .int (nI (keepN (uS u a b item (40 * r.toNatClampNeg + i.toNatClampNeg) k).2)), .int (st)]))) w (.inr (7, [.ref (w + 1), .int (nI np), .int (nI (day + k) + 1), .int (nI (letN item (40 * r.toNatClampNeg + i.toNatClampNeg) k)), .ref (w + 2), .int (nI (moM kd np))])))) (xu_33 (by omega) (by omega) (by omega)) ?_
      refine xr_iinc (v := nI (k + 1)) (lv' := [(5, .int (nI (k + 1))), (0, .ref e), (1, .int r), (2, .int i), (3, .int n)]) X 0 dX11_posts_85 rfl (nI_1 _) rfl rfl ?_
      refine xr_goto (tgt := 41) X dX11_posts_88 (by decide) ?_
      refine xr_heap (h' := (xu (xu (xu h (e + 30) (.inl (.int, 24, .inl ((uS u a b item (40 * r.toNatClampNeg + i.toNatClampNeg) (k + 1)).1)))) e (.inr (10, [.ref (e + 1), .ref (e + 13), .ref w, .ref (e + 19), .ref (e + 20), .ref (e + 28), .ref (e + 30), .int (nI (uS u a b item (40 * r.toNatClampNeg + i.toNatClampNeg) (k + 1)).2), .int (st)]))) w (.inr (7, [.ref (w + 1), .int (nI np), .int (nI (day + (k + 1))), .int (nI (befN item (40 * r.toNatClampNeg + i.toNatClampNeg) b (k + 1))), .ref (w + 2), .int (nI (moM kd np))])))) (by rw [nI_1]; rfl) ?_
      exact ih (k + 1) (by omega) (inv_s hinv (by rw [brkP, c_66]; rfl))
set_option maxRecDepth 100000 in
theorem c_X11_posts {l : Launch} {Ω : xW} {h : xH} {sz : Nat} {e w np day b : Nat} {u : Nat → Int32} {a : Nat} {st : Int32} {kd wh mn : Nat → Nat} {fr : Nat → Int32} {lane many sizes item : Nat → Int32} {it : Nat → Nat → Int32} {r i n : Int32} (heo : h e = some (eO e w (nI a) st)) (hw : w = e + 16) (hu : h (e + 30) = some (.inl (.int, 24, .inl u))) (hto : h w = some (tO w (nI np) (nI day) (nI b) (nI (moM kd np)))) (htf : h (w + 2) = some (.inl (.int, 64, .inl fr))) (h6 : np ≤ 6) (hF : frOK fr kd wh mn np) (hb : b < 2 ^ np) (ho : h (e + 1) = some (.inr (5, [.ref (e + 2), .ref (e + 11), .ref (e + 12)]))) (hsizes : h (e + 12) = some (.inl (.int, 8, .inl sizes))) (hout : h (e + 2) = some (.inl (.array .int, 8, .inr (.inr (.inr (.inr (xmo (e + 2) 8))))))) (hin : ∀ q, q < 8 → h (e + 3 + q) = some (.inl (.int, 40, .inl (it q)))) (hsz : ∀ q, q < 8 → sizes q = if (lane q).toInt < 0 then -1 else many q) (hM : ∀ q, q < 8 → 0 ≤ (many q).toInt ∧ (many q).toInt ≤ 40) (hIt : ∀ q j, q < 8 → j < 40 → it q j = item (40 * q + j)) (ha : a ≤ 24) (hday : day ≤ 9999) : xC l Ω yX11_posts cX11_posts 6 (some .int) 6 0 0 [.ref e, .int r, .int i, .int n] h sz (some (.int (a_posts kd wh mn np day b lane many item r i n))) (if 0 < np then (if (0 ≤ r.toInt ∧ r.toInt < 8) ∧ 1 ≤ n.toInt ∧ n.toInt ≤ 24 then (if (lackF lane many r i n).toInt ≤ 0 then (if allB (setP item (40 * r.toNatClampNeg + i.toNatClampNeg) np) n.toNatClampNeg = true then (if 9999 < day + n.toNatClampNeg then h else (xu (xu (xu h (e + 30) (.inl (.int, 24, .inl ((uS u a b item (40 * r.toNatClampNeg + i.toNatClampNeg) (kst kd wh mn np b item (40 * r.toNatClampNeg + i.toNatClampNeg) n.toNatClampNeg)).1)))) e (.inr (10, [.ref (e + 1), .ref (e + 13), .ref w, .ref (e + 19), .ref (e + 20), .ref (e + 28), .ref (e + 30), .int (nI (uS u a b item (40 * r.toNatClampNeg + i.toNatClampNeg) (kst kd wh mn np b item (40 * r.toNatClampNeg + i.toNatClampNeg) n.toNatClampNeg)).2), .int (0)]))) w (.inr (7, [.ref (w + 1), .int (nI np), .int (nI (day + (kst kd wh mn np b item (40 * r.toNatClampNeg + i.toNatClampNeg) n.toNatClampNeg))), .int (nI (befN item (40 * r.toNatClampNeg + i.toNatClampNeg) b (kst kd wh mn np b item (40 * r.toNatClampNeg + i.toNatClampNeg) n.toNatClampNeg))), .ref (w + 2), .int (nI (moM kd np))])))) else h) else (xu h e (.inr (10, [.ref (e + 1), .ref (e + 13), .ref w, .ref (e + 19), .ref (e + 20), .ref (e + 28), .ref (e + 30), .int (nI a), .int (lackF lane many r i n)])))) else h) else h) (sz) := by
  refine xC_of (lv := [(0, .ref e), (1, .int r), (2, .int i), (3, .int n)]) pn_X11 rfl rfl (fun Γ X hΓ hbs => ?_)
  have X : xX Γ Ω cX11_posts 6 RX11 "posts" (some .int) 6 210 0 0 := X
  subst hΓ
  have h64 := pw_le h6
  refine xr_aload_n X 0 dX11_posts_0 rfl rfl ?_
  refine xr_iload_n X 1 dX11_posts_1 rfl rfl ?_
  refine xr_iload_n X 2 dX11_posts_2 rfl rfl ?_
  refine xr_iload_n X 3 dX11_posts_3 rfl rfl ?_
  refine xr_iconst (v := 1) X dX11_posts_4 (by decide) ?_
  refine xr_bipush (v := 24) X dX11_posts_5 (by decide) ?_
  by_cases h0 : np = 0
  · refine xr_callV X heo rfl kw_606 kw_608 kw_14 cw_X11_refusalOfLetters [.int r, .int i, .int n, .int 1, .int 24] (c_rol_S (lo := 1) (hi := 24) heo hw hto h6 ho hsizes hout hin hsz hM hIt h0) rfl rfl rfl rfl rfl rfl rfl dX11_posts_7 ?_
    refine xr_istore (lv' := [(4, .int (-1000002)), (0, .ref e), (1, .int r), (2, .int i), (3, .int n)]) X dX11_posts_10 rfl rfl ?_
    refine xr_iload X 0 dX11_posts_12 rfl ?_
    refine xr_if_eq (tgt := 20) X dX11_posts_14 (by decide) (fun c_14 => absurd c_14 (by decide)) (fun _ => ?_)
    refine xr_iload X 0 dX11_posts_17 rfl ?_
    exact xr_iret X rfl (xv (if_neg (by omega))) ((if_neg (by omega)).symm) rfl rfl rfl dX11_posts_19
  have h0 : 0 < np := by omega
  by_cases hok : (0 ≤ r.toInt ∧ r.toInt < 8) ∧ 1 ≤ n.toInt ∧ n.toInt ≤ 24
  rotate_left
  · refine xr_callV X heo rfl kw_606 kw_608 kw_14 cw_X11_refusalOfLetters [.int r, .int i, .int n, .int 1, .int 24] (c_rol_B (lo := 1) (hi := 24) heo hw hto h6 ho hsizes hout hin hsz hM hIt h0 hok) rfl rfl rfl rfl rfl rfl rfl dX11_posts_7 ?_
    refine xr_istore (lv' := [(4, .int (-1000001)), (0, .ref e), (1, .int r), (2, .int i), (3, .int n)]) X dX11_posts_10 rfl rfl ?_
    refine xr_iload X 0 dX11_posts_12 rfl ?_
    refine xr_if_eq (tgt := 20) X dX11_posts_14 (by decide) (fun c_14 => absurd c_14 (by decide)) (fun _ => ?_)
    refine xr_iload X 0 dX11_posts_17 rfl ?_
    exact xr_iret X rfl (xv ((if_pos h0).trans (if_neg hok))) (((if_pos h0).trans (if_neg hok)).symm) rfl rfl rfl dX11_posts_19
  have hok2 : (0 ≤ r.toInt ∧ r.toInt < 8) ∧ (1 : Int32).toInt ≤ n.toInt ∧ n.toInt ≤ (24 : Int32).toInt := hok
  have tnr := (i32_tn (x := r) (by omega)).2
  have hMr := hM r.toNatClampNeg (by omega)
  have tnn := (i32_tn (x := n) (by omega)).2
  by_cases hl : (lane r.toNatClampNeg).toInt < 0
  · refine xr_callV X heo rfl kw_606 kw_608 kw_14 cw_X11_refusalOfLetters [.int r, .int i, .int n, .int 1, .int 24] (c_rol_1 (lo := 1) (hi := 24) heo hw hto h6 ho hsizes hout hin hsz hM hIt h0 hok2 hl) rfl rfl rfl rfl rfl rfl rfl dX11_posts_7 ?_
    refine xr_istore (lv' := [(4, .int ((-1000010) - 1)), (0, .ref e), (1, .int r), (2, .int i), (3, .int n)]) X dX11_posts_10 rfl rfl ?_
    refine xr_iload X 0 dX11_posts_12 rfl ?_
    refine xr_if_eq (tgt := 20) X dX11_posts_14 (by decide) (fun c_14 => absurd c_14 (by decide)) (fun _ => ?_)
    refine xr_iload X 0 dX11_posts_17 rfl ?_
    exact xr_iret X rfl (xv (by rw [a_posts, if_pos h0, if_pos hok, if_neg (by rw [lackF_1 hl]; decide), lackF_1 hl])) (by rw [if_pos h0, if_pos hok, if_neg (by rw [lackF_1 hl]; decide), lackF_1 hl]) rfl rfl rfl dX11_posts_19
  by_cases h2 : i.toInt < 0 ∨ (many r.toNatClampNeg).toInt < i.toInt + n.toInt
  · refine xr_callV X heo rfl kw_606 kw_608 kw_14 cw_X11_refusalOfLetters [.int r, .int i, .int n, .int 1, .int 24] (c_rol_2 (lo := 1) (hi := 24) heo hw hto h6 ho hsizes hout hin hsz hM hIt h0 hok2 hl h2 (by decide) (by decide)) rfl rfl rfl rfl rfl rfl rfl dX11_posts_7 ?_
    refine xr_istore (lv' := [(4, .int ((-1000010) - 2)), (0, .ref e), (1, .int r), (2, .int i), (3, .int n)]) X dX11_posts_10 rfl rfl ?_
    refine xr_iload X 0 dX11_posts_12 rfl ?_
    refine xr_if_eq (tgt := 20) X dX11_posts_14 (by decide) (fun c_14 => absurd c_14 (by decide)) (fun _ => ?_)
    refine xr_iload X 0 dX11_posts_17 rfl ?_
    exact xr_iret X rfl (xv (by rw [a_posts, if_pos h0, if_pos hok, if_neg (by rw [lackF_2 hl h2]; decide), lackF_2 hl h2])) (by rw [if_pos h0, if_pos hok, if_neg (by rw [lackF_2 hl h2]; decide), lackF_2 hl h2]) rfl rfl rfl dX11_posts_19
  have tni := (i32_tn (x := i) (by omega)).2
  have hlk0 := lackF_0 hl h2
  by_cases hall : allB (setP item (40 * r.toNatClampNeg + i.toNatClampNeg) np) n.toNatClampNeg = true
  rotate_left
  · refine xr_callV X heo rfl kw_606 kw_608 kw_14 cw_X11_refusalOfLetters [.int r, .int i, .int n, .int 1, .int 24] (c_rol_0 (lo := 1) (hi := 24) heo hw hto h6 ho hsizes hout hin hsz hM hIt h0 hok2 hl h2 (by decide) (by decide)) rfl rfl rfl rfl rfl rfl rfl dX11_posts_7 ?_
    refine xr_top (y := (-1000001)) (if_neg hall) ?_
    refine xr_istore (lv' := [(4, .int (-1000001)), (0, .ref e), (1, .int r), (2, .int i), (3, .int n)]) X dX11_posts_10 rfl rfl ?_
    refine xr_iload X 0 dX11_posts_12 rfl ?_
    refine xr_if_eq (tgt := 20) X dX11_posts_14 (by decide) (fun c_14 => absurd c_14 (by decide)) (fun _ => ?_)
    refine xr_iload X 0 dX11_posts_17 rfl ?_
    exact xr_iret X rfl (xv ((((if_pos h0).trans (if_pos hok)).trans (if_pos (by rw [hlk0]; decide))).trans (if_neg hall))) (((((if_pos h0).trans (if_pos hok)).trans (if_pos (by rw [hlk0]; decide))).trans (if_neg hall)).symm) rfl rfl rfl dX11_posts_19
  refine xr_callV X heo rfl kw_606 kw_608 kw_14 cw_X11_refusalOfLetters [.int r, .int i, .int n, .int 1, .int 24] (c_rol_0 (lo := 1) (hi := 24) heo hw hto h6 ho hsizes hout hin hsz hM hIt h0 hok2 hl h2 (by decide) (by decide)) rfl rfl rfl rfl rfl rfl rfl dX11_posts_7 ?_
  refine xr_top (y := 0) (if_pos hall) ?_
  refine xr_istore (lv' := [(4, .int 0), (0, .ref e), (1, .int r), (2, .int i), (3, .int n)]) X dX11_posts_10 rfl rfl ?_
  refine xr_iload X 0 dX11_posts_12 rfl ?_
  refine xr_if_eq (tgt := 20) X dX11_posts_14 (by decide) (fun _ => ?_) (fun c_14 => absurd rfl c_14)
  refine xr_aload_n X 1 dX11_posts_20 rfl rfl ?_
  refine xr_get X fF_X11_26_10 heo rfl dX11_posts_21 ?_
  refine xr_callV X hto rfl kw_585 kw_586 kw_587 cw_X8_day [] (c_X8_day hto) rfl rfl rfl rfl rfl rfl rfl dX11_posts_24 ?_
  refine xr_sipush (v := 9999) X dX11_posts_27 (by decide) ?_
  refine xr_iload_n X 4 dX11_posts_30 rfl rfl ?_
  refine xr_isub X dX11_posts_31 ?_
  refine xr_top (y := (nI (9999 - n.toNatClampNeg))) (by rw [i32_eq, i32_sub (by rw [k32_9999]; omega) (by rw [k32_9999]; omega), k32_9999, nI_toInt (by omega)]; omega) ?_
  refine xr_icmp_le (tgt := 38) X dX11_posts_32 (by decide) (fun c_32 => ?_) (fun c_32 => ?_)
  · have c_32 := i32_le.mp c_32
    (try simp (disch := omega) only [nI_toInt, i32_add, i32_sub, i32_mul, i64_addl, i32_l, k32_9999] at c_32)
    refine xr_iconst (v := 0) X dX11_posts_38 (by decide) ?_
    refine xr_istore (lv' := [(5, .int 0), (4, .int 0), (0, .ref e), (1, .int r), (2, .int i), (3, .int n)]) X dX11_posts_39 rfl rfl ?_
    rw [show a_posts kd wh mn np day b lane many item r i n = _ from ((((if_pos h0).trans (if_pos hok)).trans (if_pos (by rw [hlk0]; decide))).trans (if_pos hall)).trans (if_neg (by omega)), if_pos h0, if_pos hok, if_pos (by rw [hlk0]; decide), if_pos hall, if_neg (show ¬ 9999 < day + n.toNatClampNeg by omega)]
    refine xr_locs (lv' := [(5, .int 0), (0, .ref e), (1, .int r), (2, .int i), (3, .int n)]) [0, 2, 3, 4, 5] rfl ?_
    refine xr_heap (h' := (xu (xu (xu h (e + 30) (.inl (.int, 24, .inl ((uS u a b item (40 * r.toNatClampNeg + i.toNatClampNeg) 0).1)))) e (.inr (10, [.ref (e + 1), .ref (e + 13), .ref w, .ref (e + 19), .ref (e + 20), .ref (e + 28), .ref (e + 30), .int (nI (uS u a b item (40 * r.toNatClampNeg + i.toNatClampNeg) 0).2), .int (st)]))) w (.inr (7, [.ref (w + 1), .int (nI np), .int (nI (day + 0)), .int (nI (befN item (40 * r.toNatClampNeg + i.toNatClampNeg) b 0)), .ref (w + 2), .int (nI (moM kd np))])))) (xu3_id hu heo hto) ?_
    exact l_posts X heo hw hu hto htf h6 hF hb ho hsizes hout hin hsz hM hIt ha hday hok hl h2 hall n.toNatClampNeg 0 (by omega) (fun q hq => by omega)
  · have c_32 := mt i32_le.mpr c_32
    (try simp (disch := omega) only [nI_toInt, i32_add, i32_sub, i32_mul, i64_addl, i32_l, k32_9999] at c_32)
    refine xr_ldc (v := (-1000003)) X kw_302 dX11_posts_35 ?_
    exact xr_iret X rfl (xv (((((if_pos h0).trans (if_pos hok)).trans (if_pos (by rw [hlk0]; decide))).trans (if_pos hall)).trans (if_pos (by omega)))) ((((((if_pos h0).trans (if_pos hok)).trans (if_pos (by rw [hlk0]; decide))).trans (if_pos hall)).trans (if_pos (by omega))).symm) rfl rfl rfl dX11_posts_37
  
