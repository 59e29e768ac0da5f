set_option maxRecDepth 100000 in
theorem c_X11_found {l : Launch} {Ω : xW} {h : xH} {sz : Nat} {e w : Nat} {ac st : Int32} {k : Int32} (heo : h e = some (eO e w ac st)) : xC l Ω yX11_found cX11_found 2 (some .int) 0 0 0 [.ref e, .int k] h sz (some (.int ((-1000010) - k))) (xu h e (.inr (10, [.ref (e + 1), .ref (e + 13), .ref w, .ref (e + 19), .ref (e + 20), .ref (e + 28), .ref (e + 30), .int (ac), .int (k)]))) (sz) := by
  refine xC_of (lv := [(0, .ref e), (1, .int k)]) pn_X11 rfl rfl (fun Γ X hΓ hbs => ?_)
  have X : xX Γ Ω cX11_found 2 RX11 "found" (some .int) 0 0 0 0 := X
  subst hΓ
  refine xr_aload_n X 0 dX11_found_0 rfl rfl ?_
  refine xr_iload_n X 1 dX11_found_1 rfl rfl ?_
  refine xr_put (fs' := [.ref (e + 1), .ref (e + 13), .ref w, .ref (e + 19), .ref (e + 20), .ref (e + 28), .ref (e + 30), .int (ac), .int k]) X (fW_X11_56_10 _) heo rfl rfl rfl rfl dX11_found_2 ?_
  refine xr_ldcw (v := (-1000010)) X kw_231 dX11_found_5 ?_
  refine xr_iload_n X 1 dX11_found_8 rfl rfl ?_
  refine xr_isub X dX11_found_9 ?_
  exact xr_iret X rfl rfl rfl rfl rfl rfl dX11_found_10
set_option maxRecDepth 100000 in
theorem c_X11_fine {l : Launch} {Ω : xW} {h : xH} {sz : Nat} {e w : Nat} {ac st : Int32} {k : Int32} (heo : h e = some (eO e w ac st)) : xC l Ω yX11_fine cX11_fine 2 (some .int) 0 0 0 [.ref e, .int k] h sz (some (.int k)) (xu h e (.inr (10, [.ref (e + 1), .ref (e + 13), .ref w, .ref (e + 19), .ref (e + 20), .ref (e + 28), .ref (e + 30), .int (ac), .int (0)]))) (sz) := by
  refine xC_of (lv := [(0, .ref e), (1, .int k)]) pn_X11 rfl rfl (fun Γ X hΓ hbs => ?_)
  have X : xX Γ Ω cX11_fine 2 RX11 "fine" (some .int) 0 0 0 0 := X
  subst hΓ
  refine xr_aload_n X 0 dX11_fine_0 rfl rfl ?_
  refine xr_iconst (v := 0) X dX11_fine_1 (by decide) ?_
  refine xr_put (fs' := [.ref (e + 1), .ref (e + 13), .ref w, .ref (e + 19), .ref (e + 20), .ref (e + 28), .ref (e + 30), .int (ac), .int 0]) X (fW_X11_56_10 _) heo rfl rfl rfl rfl dX11_fine_2 ?_
  refine xr_iload_n X 1 dX11_fine_5 rfl rfl ?_
  exact xr_iret X rfl rfl rfl rfl rfl rfl dX11_fine_6
set_option maxRecDepth 100000 in
theorem c_X11_row {l : Launch} {Ω : xW} {h : xH} {sz : Nat} {e w : Nat} {ac st : Int32} {lanes sizes : Nat → Int32} {it : Nat → Nat → Int32} {r l2 n : Int32} (heo : h e = some (eO e w ac st)) (ho : h (e + 1) = some (.inr (5, [.ref (e + 2), .ref (e + 11), .ref (e + 12)]))) (hlanes : h (e + 11) = some (.inl (.int, 8, .inl lanes))) (hsizes : h (e + 12) = some (.inl (.int, 8, .inl sizes))) (hout : h (e + 2) = some (.inl (.array .int, 8, .inr (.inr (.inr (.inr (xmo (e + 2) 8))))))) (hin : ∀ q, q < 8 → h (e + 3 + q) = some (.inl (.int, 40, .inl (it q)))) : xC l Ω yX11_row cX11_row 4 (some .int) 2 0 0 [.ref e, .int r, .int l2, .int n] h sz (some (.int (a_row r l2 n))) (if 0 ≤ r.toInt ∧ r.toInt < 8 ∧ 0 ≤ l2.toInt ∧ l2.toInt < 3 ∧ n.toInt ≤ 40 then (if n.toInt < 0 then (xu h e (.inr (10, [.ref (e + 1), .ref (e + 13), .ref w, .ref (e + 19), .ref (e + 20), .ref (e + 28), .ref (e + 30), .int (ac), .int (4)]))) else (xu (xu (xu (xu h (e + 3 + r.toNatClampNeg) (.inl (.int, 40, .inl (ffl (it r.toNatClampNeg) 0 40)))) (e + 11) (.inl (.int, 8, .inl (upd lanes r.toNatClampNeg l2)))) (e + 12) (.inl (.int, 8, .inl (upd sizes r.toNatClampNeg n)))) e (.inr (10, [.ref (e + 1), .ref (e + 13), .ref w, .ref (e + 19), .ref (e + 20), .ref (e + 28), .ref (e + 30), .int (ac), .int (0)])))) else h) (sz) := by
  refine xC_of (lv := [(0, .ref e), (1, .int r), (2, .int l2), (3, .int n)]) pn_X11 rfl rfl (fun Γ X hΓ hbs => ?_)
  have X : xX Γ Ω cX11_row 4 RX11 "row" (some .int) 2 70 0 0 := X
  subst hΓ
  refine xr_aload_n X 0 dX11_row_0 rfl rfl ?_
  refine xr_get X fF_X11_12_10 heo rfl dX11_row_1 ?_
  refine xr_iload_n X 1 dX11_row_4 rfl rfl ?_
  refine xr_callV X ho rfl kw_218 kw_219 kw_220 cw_X6_isPlace [.int r] c_X6_isPlace rfl rfl rfl rfl rfl rfl rfl dX11_row_5 ?_
  refine xr_if_eq (tgt := 28) X dX11_row_8 (by decide) (fun c_8 => ?_) (fun c_8 => ?_)
  · have c_8 := of_decide_eq_false (xb_0.mp c_8)
    (try simp (disch := omega) only [nI_toInt, i32_add, i32_sub, i32_mul, i64_addl, i32_l, k32_0, k32_8, k64_0, k64_8] at c_8)
    refine xr_ldc (v := (-1000001)) X kw_226 dX11_row_28 ?_
    exact xr_iret X rfl (xv (if_neg (by omega))) ((if_neg (by omega)).symm) rfl rfl rfl dX11_row_30
  · have c_8 := of_decide_eq_true (xb_1.mp c_8)
    (try simp (disch := omega) only [nI_toInt, i32_add, i32_sub, i32_mul, i64_addl, i32_l, k32_0, k32_8, k64_0, k64_8] at c_8)
    refine xr_aload_n X 0 dX11_row_11 rfl rfl ?_
    refine xr_get X fF_X11_12_10 heo rfl dX11_row_12 ?_
    refine xr_iload_n X 2 dX11_row_15 rfl rfl ?_
    refine xr_callV X ho rfl kw_222 kw_223 kw_224 cw_X6_isLane [.int l2] c_X6_isLane rfl rfl rfl rfl rfl rfl rfl dX11_row_16 ?_
    refine xr_if_eq (tgt := 28) X dX11_row_19 (by decide) (fun c_19 => ?_) (fun c_19 => ?_)
    · have c_19 := of_decide_eq_false (xb_0.mp c_19)
      (try simp (disch := omega) only [nI_toInt, i32_add, i32_sub, i32_mul, i64_addl, i32_l, k32_0, k32_3, k64_0, k64_3] at c_19)
      refine xr_ldc (v := (-1000001)) X kw_226 dX11_row_28 ?_
      exact xr_iret X rfl (xv (if_neg (by omega))) ((if_neg (by omega)).symm) rfl rfl rfl dX11_row_30
    · have c_19 := of_decide_eq_true (xb_1.mp c_19)
      (try simp (disch := omega) only [nI_toInt, i32_add, i32_sub, i32_mul, i64_addl, i32_l, k32_0, k32_3, k64_0, k64_3] at c_19)
      refine xr_iload_n X 3 dX11_row_22 rfl rfl ?_
      refine xr_bipush (v := 40) X dX11_row_23 (by decide) ?_
      refine xr_icmp_le (tgt := 31) X dX11_row_25 (by decide) (fun c_25 => ?_) (fun c_25 => ?_)
      · have c_25 := i32_le.mp c_25
        (try simp (disch := omega) only [nI_toInt, i32_add, i32_sub, i32_mul, i64_addl, i32_l, k32_40, k64_40] at c_25)
        refine xr_iload_n X 3 dX11_row_31 rfl rfl ?_
        refine xr_if_ge (tgt := 41) X dX11_row_32 (by decide) (fun c_32 => ?_) (fun c_32 => ?_)
        · have c_32 := i32_le.mp c_32
          (try simp (disch := omega) only [nI_toInt, i32_add, i32_sub, i32_mul, i64_addl, i32_l, k32_0, k64_0] at c_32)
          refine xr_aload_n X 0 dX11_row_41 rfl rfl ?_
          refine xr_get X fF_X11_12_10 heo rfl dX11_row_42 ?_
          refine xr_iload_n X 1 dX11_row_45 rfl rfl ?_
          refine xr_iload_n X 2 dX11_row_46 rfl rfl ?_
          refine xr_iload_n X 3 dX11_row_47 rfl rfl ?_
          refine xr_callV X ho rfl kw_232 kw_233 kw_234 cw_X6_put [.int r, .int l2, .int n] (c_X6_put ho hlanes hsizes hout hin (by omega) (by omega) (by omega) (by omega)) rfl rfl rfl rfl rfl rfl rfl dX11_row_48 ?_
          refine xr_aload_n X 0 dX11_row_51 rfl rfl ?_
          refine xr_iload_n X 3 dX11_row_52 rfl rfl ?_
          refine xr_callV X (xu_at (xn0 _ rfl) (xu_at (xn0 _ rfl) (xu_at (by omega) heo))) rfl kw_241 kw_243 kw_1 cw_X11_fine [.int n] (c_X11_fine (xu_at (xn0 _ rfl) (xu_at (xn0 _ rfl) (xu_at (by omega) heo)))) rfl rfl rfl rfl rfl rfl rfl dX11_row_53 ?_
          exact xr_iret X rfl (xv ((if_pos (by omega)).trans (if_neg (by omega)))) (((if_pos (by omega)).trans (if_neg (by omega))).symm) rfl rfl rfl dX11_row_56
        · have c_32 := mt i32_le.mpr c_32
          (try simp (disch := omega) only [nI_toInt, i32_add, i32_sub, i32_mul, i64_addl, i32_l, k32_0, k64_0] at c_32)
          refine xr_aload_n X 0 dX11_row_35 rfl rfl ?_
          refine xr_iconst (v := 4) X dX11_row_36 (by decide) ?_
          refine xr_callV X heo rfl kw_227 kw_229 kw_0 cw_X11_found [.int 4] (c_X11_found heo) rfl rfl rfl rfl rfl rfl rfl dX11_row_37 ?_
          exact xr_iret X rfl (xv ((if_pos (by omega)).trans (if_pos (by omega)))) (((if_pos (by omega)).trans (if_pos (by omega))).symm) rfl rfl rfl dX11_row_40
      · have c_25 := mt i32_le.mpr c_25
        (try simp (disch := omega) only [nI_toInt, i32_add, i32_sub, i32_mul, i64_addl, i32_l, k32_40, k64_40] at c_25)
        refine xr_ldc (v := (-1000001)) X kw_226 dX11_row_28 ?_
        exact xr_iret X rfl (xv (if_neg (by omega))) ((if_neg (by omega)).symm) rfl rfl rfl dX11_row_30
set_option maxRecDepth 100000 in
theorem c_X11_set {l : Launch} {Ω : xW} {h : xH} {sz : Nat} {e w : Nat} {ac st : Int32} {lane many lanes sizes : Nat → Int32} {it : Nat → Nat → Int32} {r i v : Int32} (heo : h e = some (eO e w ac st)) (ho : h (e + 1) = some (.inr (5, [.ref (e + 2), .ref (e + 11), .ref (e + 12)]))) (hsizes : h (e + 12) = some (.inl (.int, 8, .inl sizes))) (hlanes : h (e + 11) = some (.inl (.int, 8, .inl lanes))) (hout : h (e + 2) = some (.inl (.array .int, 8, .inr (.inr (.inr (.inr (xmo (e + 2) 8))))))) (hin : ∀ q, q < 8 → h (e + 3 + q) = some (.inl (.int, 40, .inl (it q)))) (hsz : ∀ q, q < 8 → sizes q = if (lane q).toInt < 0 then -1 else many q) (hM : ∀ q, q < 8 → 0 ≤ (many q).toInt ∧ (many q).toInt ≤ 40) (hLn : ∀ q, q < 8 → 0 ≤ (lane q).toInt → lanes q = lane q) : xC l Ω yX11_set cX11_set 4 (some .int) 4 0 0 [.ref e, .int r, .int i, .int v] h sz (some (.int (a_set lane many r i v))) (if 0 ≤ r.toInt ∧ r.toInt < 8 then (if (lane r.toNatClampNeg).toInt < 0 then (xu h e (.inr (10, [.ref (e + 1), .ref (e + 13), .ref w, .ref (e + 19), .ref (e + 20), .ref (e + 28), .ref (e + 30), .int (ac), .int (1)]))) else if 0 ≤ i.toInt ∧ i.toInt < (many r.toNatClampNeg).toInt then (xu (xu h (e + 3 + r.toNatClampNeg) (.inl (.int, 40, .inl (upd (it r.toNatClampNeg) i.toNatClampNeg (nw (lane r.toNatClampNeg) v))))) e (.inr (10, [.ref (e + 1), .ref (e + 13), .ref w, .ref (e + 19), .ref (e + 20), .ref (e + 28), .ref (e + 30), .int (ac), .int (0)]))) else (xu h e (.inr (10, [.ref (e + 1), .ref (e + 13), .ref w, .ref (e + 19), .ref (e + 20), .ref (e + 28), .ref (e + 30), .int (ac), .int (2)])))) else h) (sz) := by
  refine xC_of (lv := [(0, .ref e), (1, .int r), (2, .int i), (3, .int v)]) pn_X11 rfl rfl (fun Γ X hΓ hbs => ?_)
  have X : xX Γ Ω cX11_set 4 RX11 "set" (some .int) 4 140 0 0 := X
  subst hΓ
  refine xr_aload_n X 0 dX11_set_0 rfl rfl ?_
  refine xr_get X fF_X11_12_10 heo rfl dX11_set_1 ?_
  refine xr_iload_n X 1 dX11_set_4 rfl rfl ?_
  refine xr_callV X ho rfl kw_218 kw_219 kw_220 cw_X6_isPlace [.int r] c_X6_isPlace rfl rfl rfl rfl rfl rfl rfl dX11_set_5 ?_
  refine xr_if_ne (tgt := 14) X dX11_set_8 (by decide) (fun c_8 => ?_) (fun c_8 => ?_)
  · have c_8 := of_decide_eq_true (xb_1.mp c_8)
    (try simp (disch := omega) only [nI_toInt, i32_add, i32_sub, i32_mul, i64_addl, i32_l, k32_0, k32_8, k64_0, k64_8] at c_8)
    have tnr := (i32_tn (x := r) (by omega)).2
    refine xr_aload_n X 0 dX11_set_14 rfl rfl ?_
    refine xr_get X fF_X11_12_10 heo rfl dX11_set_15 ?_
    refine xr_iload_n X 1 dX11_set_18 rfl rfl ?_
    refine xr_callV X ho rfl kw_249 kw_250 kw_251 cw_X6_isMissing [.int r] (c_X6_isMissing ho hsizes hsz hM) rfl rfl rfl rfl rfl rfl rfl dX11_set_19 ?_
    refine xr_if_eq (tgt := 31) X dX11_set_22 (by decide) (fun c_22 => ?_) (fun c_22 => ?_)
    · have c_22 := of_decide_eq_false (xb_0.mp c_22)
      (try simp (disch := omega) only [nI_toInt, i32_add, i32_sub, i32_mul, i64_addl, i32_l, k32_0, k32_8, k64_0, k64_8] at c_22)
      refine xr_aload_n X 0 dX11_set_31 rfl rfl ?_
      refine xr_get X fF_X11_12_10 heo rfl dX11_set_32 ?_
      refine xr_iload_n X 1 dX11_set_35 rfl rfl ?_
      refine xr_iload_n X 2 dX11_set_36 rfl rfl ?_
      refine xr_iconst (v := 1) X dX11_set_37 (by decide) ?_
      refine xr_callV X ho rfl kw_253 kw_254 kw_255 cw_X6_reaches [.int r, .int i, .int 1] (c_X6_reaches ho hsizes hsz hM) rfl rfl rfl rfl rfl rfl rfl dX11_set_38 ?_
      refine xr_if_ne (tgt := 50) X dX11_set_41 (by decide) (fun c_41 => ?_) (fun c_41 => ?_)
      · have c_41 := of_decide_eq_true (xb_1.mp c_41)
        (try simp (disch := omega) only [nI_toInt, i32_add, i32_sub, i32_mul, i64_addl, i32_l, k32_0, k32_1, k32_8, k64_0, k64_1, k64_8] at c_41)
        have hLr := hLn r.toNatClampNeg (by omega) (by omega)
        refine xr_aload_n X 0 dX11_set_50 rfl rfl ?_
        refine xr_aload_n X 0 dX11_set_51 rfl rfl ?_
        refine xr_get X fF_X11_12_10 heo rfl dX11_set_52 ?_
        refine xr_iload_n X 1 dX11_set_55 rfl rfl ?_
        refine xr_iload_n X 2 dX11_set_56 rfl rfl ?_
        refine xr_iload_n X 3 dX11_set_57 rfl rfl ?_
        refine xr_callV X ho rfl kw_258 kw_259 kw_260 cw_X6_write [.int r, .int i, .int v] (c_X6_write ho hsizes hout hin hsz hM (by omega) (by omega) (by omega) hlanes) rfl rfl rfl rfl rfl rfl rfl dX11_set_58 ?_
        refine xr_top (y := nw (lane r.toNatClampNeg) v) (by rw [hLr]) ?_
        refine xr_heap (h' := (xu h (e + 3 + r.toNatClampNeg) (.inl (.int, 40, .inl (upd (it r.toNatClampNeg) i.toNatClampNeg (nw (lane r.toNatClampNeg) v)))))) (by rw [hLr]) ?_
        refine xr_callV X (xu_at (by omega) heo) rfl kw_241 kw_243 kw_1 cw_X11_fine [.int (nw (lane r.toNatClampNeg) v)] (c_X11_fine (xu_at (by omega) heo)) rfl rfl rfl rfl rfl rfl rfl dX11_set_61 ?_
        exact xr_iret X rfl (xv (((if_pos (by omega)).trans (if_neg (by omega))).trans (if_pos (by omega)))) ((((if_pos (by omega)).trans (if_neg (by omega))).trans (if_pos (by omega))).symm) rfl rfl rfl dX11_set_64
      · have c_41 := of_decide_eq_false (xb_0.mp c_41)
        (try simp (disch := omega) only [nI_toInt, i32_add, i32_sub, i32_mul, i64_addl, i32_l, k32_0, k32_1, k32_8, k64_0, k64_1, k64_8] at c_41)
        refine xr_aload_n X 0 dX11_set_44 rfl rfl ?_
        refine xr_iconst (v := 2) X dX11_set_45 (by decide) ?_
        refine xr_callV X heo rfl kw_227 kw_229 kw_0 cw_X11_found [.int 2] (c_X11_found heo) rfl rfl rfl rfl rfl rfl rfl dX11_set_46 ?_
        exact xr_iret X rfl (xv (((if_pos (by omega)).trans (if_neg (by omega))).trans (if_neg (by omega)))) ((((if_pos (by omega)).trans (if_neg (by omega))).trans (if_neg (by omega))).symm) rfl rfl rfl dX11_set_49
    · have c_22 := of_decide_eq_true (xb_1.mp c_22)
      (try simp (disch := omega) only [nI_toInt, i32_add, i32_sub, i32_mul, i64_addl, i32_l, k32_0, k32_8, k64_0, k64_8] at c_22)
      refine xr_aload_n X 0 dX11_set_25 rfl rfl ?_
      refine xr_iconst (v := 1) X dX11_set_26 (by decide) ?_
      refine xr_callV X heo rfl kw_227 kw_229 kw_0 cw_X11_found [.int 1] (c_X11_found heo) rfl rfl rfl rfl rfl rfl rfl dX11_set_27 ?_
      exact xr_iret X rfl (xv ((if_pos (by omega)).trans (if_pos (by omega)))) (((if_pos (by omega)).trans (if_pos (by omega))).symm) rfl rfl rfl dX11_set_30
  · have c_8 := of_decide_eq_false (xb_0.mp c_8)
    (try simp (disch := omega) only [nI_toInt, i32_add, i32_sub, i32_mul, i64_addl, i32_l, k32_0, k32_8, k64_0, k64_8] at c_8)
    refine xr_ldc (v := (-1000001)) X kw_226 dX11_set_11 ?_
    exact xr_iret X rfl (xv (if_neg (by omega))) ((if_neg (by omega)).symm) rfl rfl rfl dX11_set_13
theorem c_X6_carryU {l : Launch} {Ω : xW} {h : xH} {sz : Nat} {e : Nat} {lane many sizes : Nat → Int32} {it : Nat → Nat → Int32} {a i b j n : Int32} (ho : h (e + 1) = some (.inr (5, [.ref (e + 2), .ref (e + 11), .ref (e + 12)]))) (hsizes : h (e + 12) = some (.inl (.int, 8, .inl sizes))) (hout : h (e + 2) = some (.inl (.array .int, 8, .inr (.inr (.inr (.inr (xmo (e + 2) 8))))))) (hin : ∀ q, q < 8 → h (e + 3 + q) = some (.inl (.int, 40, .inl (it q)))) (hsz : ∀ q, q < 8 → sizes q = if (lane q).toInt < 0 then -1 else many q) (hM : ∀ q, q < 8 → 0 ≤ (many q).toInt ∧ (many q).toInt ≤ 40) (ha : 0 ≤ a.toInt ∧ a.toInt < 8) (hb : 0 ≤ b.toInt ∧ b.toInt < 8) (hla : 0 ≤ (lane a.toNatClampNeg).toInt) (hlb : 0 ≤ (lane b.toNatClampNeg).toInt) (hc : 0 ≤ i.toInt ∧ 0 ≤ j.toInt ∧ 0 ≤ n.toInt ∧ i.toInt + n.toInt ≤ (many a.toNatClampNeg).toInt ∧ j.toInt + n.toInt ≤ (many b.toNatClampNeg).toInt) : xC l Ω yX6_carry cX6_carry 6 none 3 0 0 [.ref (e + 1), .int a, .int i, .int b, .int j, .int n] h sz (none) (xu h (e + 3 + b.toNatClampNeg) (.inl (.int, 40, .inl (va_cpy (it a.toNatClampNeg) (it b.toNatClampNeg) i.toNatClampNeg j.toNatClampNeg n.toNatClampNeg)))) (sz) := by
  by_cases hab : b = a
  · subst hab
    exact c_X6_carryS ho hsizes hout hin hsz hM ha hb hla hlb hc rfl
  · refine c_X6_carry ho hsizes hout hin hsz hM ha hb hla hlb hc (fun q => hab ?_)
    have t1 := (i32_tn ha.1).2
    have t2 := (i32_tn hb.1).2
    rw [i32_eq]
    omega
set_option maxRecDepth 100000 in
theorem c_X11_copy {l : Launch} {Ω : xW} {h : xH} {sz : Nat} {e w : Nat} {ac st : Int32} {lane many lanes sizes : Nat → Int32} {it : Nat → Nat → Int32} {a i b j n : Int32} (heo : h e = some (eO e w ac st)) (ho : h (e + 1) = some (.inr (5, [.ref (e + 2), .ref (e + 11), .ref (e + 12)]))) (hsizes : h (e + 12) = some (.inl (.int, 8, .inl sizes))) (hlanes : h (e + 11) = some (.inl (.int, 8, .inl lanes))) (hout : h (e + 2) = some (.inl (.array .int, 8, .inr (.inr (.inr (.inr (xmo (e + 2) 8))))))) (hin : ∀ q, q < 8 → h (e + 3 + q) = some (.inl (.int, 40, .inl (it q)))) (hsz : ∀ q, q < 8 → sizes q = if (lane q).toInt < 0 then -1 else many q) (hM : ∀ q, q < 8 → 0 ≤ (many q).toInt ∧ (many q).toInt ≤ 40) (hLn : ∀ q, q < 8 → 0 ≤ (lane q).toInt → lanes q = lane q) : xC l Ω yX11_copy cX11_copy 6 (some .int) 4 0 0 [.ref e, .int a, .int i, .int b, .int j, .int n] h sz (some (.int (a_copy lane many a i b j n))) (if (0 ≤ a.toInt ∧ a.toInt < 8) ∧ 0 ≤ b.toInt ∧ b.toInt < 8 then (if (lane a.toNatClampNeg).toInt < 0 ∨ (lane b.toNatClampNeg).toInt < 0 then (xu h e (.inr (10, [.ref (e + 1), .ref (e + 13), .ref w, .ref (e + 19), .ref (e + 20), .ref (e + 28), .ref (e + 30), .int (ac), .int (1)]))) else if (lane a.toNatClampNeg).toInt = (lane b.toNatClampNeg).toInt then (if 0 ≤ i.toInt ∧ 0 ≤ j.toInt ∧ 0 ≤ n.toInt ∧ i.toInt + n.toInt ≤ (many a.toNatClampNeg).toInt ∧ j.toInt + n.toInt ≤ (many b.toNatClampNeg).toInt then (xu (xu h (e + 3 + b.toNatClampNeg) (.inl (.int, 40, .inl (va_cpy (it a.toNatClampNeg) (it b.toNatClampNeg) i.toNatClampNeg j.toNatClampNeg n.toNatClampNeg)))) e (.inr (10, [.ref (e + 1), .ref (e + 13), .ref w, .ref (e + 19), .ref (e + 20), .ref (e + 28), .ref (e + 30), .int (ac), .int (0)]))) else (xu h e (.inr (10, [.ref (e + 1), .ref (e + 13), .ref w, .ref (e + 19), .ref (e + 20), .ref (e + 28), .ref (e + 30), .int (ac), .int (2)])))) else (xu h e (.inr (10, [.ref (e + 1), .ref (e + 13), .ref w, .ref (e + 19), .ref (e + 20), .ref (e + 28), .ref (e + 30), .int (ac), .int (5)])))) else h) (sz) := by
  refine xC_of (lv := [(0, .ref e), (1, .int a), (2, .int i), (3, .int b), (4, .int j), (5, .int n)]) pn_X11 rfl rfl (fun Γ X hΓ hbs => ?_)
  have X : xX Γ Ω cX11_copy 6 RX11 "copy" (some .int) 4 140 0 0 := X
  subst hΓ
  refine xr_aload_n X 0 dX11_copy_0 rfl rfl ?_
  refine xr_get X fF_X11_12_10 heo rfl dX11_copy_1 ?_
  refine xr_iload_n X 1 dX11_copy_4 rfl rfl ?_
  refine xr_callV X ho rfl kw_218 kw_219 kw_220 cw_X6_isPlace [.int a] c_X6_isPlace rfl rfl rfl rfl rfl rfl rfl dX11_copy_5 ?_
  refine xr_if_eq (tgt := 22) X dX11_copy_8 (by decide) (fun c_8 => ?_) (fun c_8 => ?_)
  · have c_8 := of_decide_eq_false (xb_0.mp c_8)
    (try simp (disch := omega) only [nI_toInt, i32_add, i32_sub, i32_mul, i64_addl, i32_l, k32_0, k32_8, k64_0, k64_8] at c_8)
    refine xr_ldc (v := (-1000001)) X kw_226 dX11_copy_22 ?_
    exact xr_iret X rfl (xv (if_neg (by omega))) ((if_neg (by omega)).symm) rfl rfl rfl dX11_copy_24
  · have c_8 := of_decide_eq_true (xb_1.mp c_8)
    (try simp (disch := omega) only [nI_toInt, i32_add, i32_sub, i32_mul, i64_addl, i32_l, k32_0, k32_8, k64_0, k64_8] at c_8)
    refine xr_aload_n X 0 dX11_copy_11 rfl rfl ?_
    refine xr_get X fF_X11_12_10 heo rfl dX11_copy_12 ?_
    refine xr_iload_n X 3 dX11_copy_15 rfl rfl ?_
    refine xr_callV X ho rfl kw_218 kw_219 kw_220 cw_X6_isPlace [.int b] c_X6_isPlace rfl rfl rfl rfl rfl rfl rfl dX11_copy_16 ?_
    refine xr_if_ne (tgt := 25) X dX11_copy_19 (by decide) (fun c_19 => ?_) (fun c_19 => ?_)
    · have c_19 := of_decide_eq_true (xb_1.mp c_19)
      (try simp (disch := omega) only [nI_toInt, i32_add, i32_sub, i32_mul, i64_addl, i32_l, k32_0, k32_8, k64_0, k64_8] at c_19)
      have tna := (i32_tn (x := a) (by omega)).2
      have tnb := (i32_tn (x := b) (by omega)).2
      refine xr_aload_n X 0 dX11_copy_25 rfl rfl ?_
      refine xr_get X fF_X11_12_10 heo rfl dX11_copy_26 ?_
      refine xr_iload_n X 1 dX11_copy_29 rfl rfl ?_
      refine xr_callV X ho rfl kw_249 kw_250 kw_251 cw_X6_isMissing [.int a] (c_X6_isMissing ho hsizes hsz hM) rfl rfl rfl rfl rfl rfl rfl dX11_copy_30 ?_
      refine xr_if_ne (tgt := 47) X dX11_copy_33 (by decide) (fun c_33 => ?_) (fun c_33 => ?_)
      · have c_33 := of_decide_eq_true (xb_1.mp c_33)
        (try simp (disch := omega) only [nI_toInt, i32_add, i32_sub, i32_mul, i64_addl, i32_l, k32_0, k32_8, k64_0, k64_8] at c_33)
        refine xr_aload_n X 0 dX11_copy_47 rfl rfl ?_
        refine xr_iconst (v := 1) X dX11_copy_48 (by decide) ?_
        refine xr_callV X heo rfl kw_227 kw_229 kw_0 cw_X11_found [.int 1] (c_X11_found heo) rfl rfl rfl rfl rfl rfl rfl dX11_copy_49 ?_
        exact xr_iret X rfl (xv ((if_pos (by omega)).trans (if_pos (by omega)))) (((if_pos (by omega)).trans (if_pos (by omega))).symm) rfl rfl rfl dX11_copy_52
      · have c_33 := of_decide_eq_false (xb_0.mp c_33)
        (try simp (disch := omega) only [nI_toInt, i32_add, i32_sub, i32_mul, i64_addl, i32_l, k32_0, k32_8, k64_0, k64_8] at c_33)
        refine xr_aload_n X 0 dX11_copy_36 rfl rfl ?_
        refine xr_get X fF_X11_12_10 heo rfl dX11_copy_37 ?_
        refine xr_iload_n X 3 dX11_copy_40 rfl rfl ?_
        refine xr_callV X ho rfl kw_249 kw_250 kw_251 cw_X6_isMissing [.int b] (c_X6_isMissing ho hsizes hsz hM) rfl rfl rfl rfl rfl rfl rfl dX11_copy_41 ?_
        refine xr_if_eq (tgt := 53) X dX11_copy_44 (by decide) (fun c_44 => ?_) (fun c_44 => ?_)
        · have c_44 := of_decide_eq_false (xb_0.mp c_44)
          (try simp (disch := omega) only [nI_toInt, i32_add, i32_sub, i32_mul, i64_addl, i32_l, k32_0, k32_8, k64_0, k64_8] at c_44)
          have hLa := hLn a.toNatClampNeg (by omega) (by omega)
          have hLb := hLn b.toNatClampNeg (by omega) (by omega)
          have hLa2 := congrArg Int32.toInt hLa
          have hLb2 := congrArg Int32.toInt hLb
          refine xr_aload_n X 0 dX11_copy_53 rfl rfl ?_
          refine xr_get X fF_X11_12_10 heo rfl dX11_copy_54 ?_
          refine xr_iload_n X 1 dX11_copy_57 rfl rfl ?_
          refine xr_iload_n X 3 dX11_copy_58 rfl rfl ?_
          refine xr_callV X ho rfl kw_271 kw_272 kw_273 cw_X6_areAlike [.int a, .int b] (c_X6_areAlike ho hlanes (by omega) (by omega)) rfl rfl rfl rfl rfl rfl rfl dX11_copy_59 ?_
          refine xr_if_ne (tgt := 71) X dX11_copy_62 (by decide) (fun c_62 => ?_) (fun c_62 => ?_)
          · have c_62 := of_decide_eq_true (xb_1.mp c_62)
            (try simp (disch := omega) only [nI_toInt, i32_add, i32_sub, i32_mul, i64_addl, i32_l] at c_62)
            refine xr_aload_n X 0 dX11_copy_71 rfl rfl ?_
            refine xr_get X fF_X11_12_10 heo rfl dX11_copy_72 ?_
            refine xr_iload_n X 1 dX11_copy_75 rfl rfl ?_
            refine xr_iload_n X 2 dX11_copy_76 rfl rfl ?_
            refine xr_iload X 5 dX11_copy_77 rfl ?_
            refine xr_callV X ho rfl kw_253 kw_254 kw_255 cw_X6_reaches [.int a, .int i, .int n] (c_X6_reaches ho hsizes hsz hM) rfl rfl rfl rfl rfl rfl rfl dX11_copy_79 ?_
            refine xr_if_eq (tgt := 100) X dX11_copy_82 (by decide) (fun c_82 => ?_) (fun c_82 => ?_)
            · have c_82 := of_decide_eq_false (xb_0.mp c_82)
              (try simp (disch := omega) only [nI_toInt, i32_add, i32_sub, i32_mul, i64_addl, i32_l, k32_0, k32_8, k64_0, k64_8] at c_82)
              refine xr_aload_n X 0 dX11_copy_100 rfl rfl ?_
              refine xr_iconst (v := 2) X dX11_copy_101 (by decide) ?_
              refine xr_callV X heo rfl kw_227 kw_229 kw_0 cw_X11_found [.int 2] (c_X11_found heo) rfl rfl rfl rfl rfl rfl rfl dX11_copy_102 ?_
              exact xr_iret X rfl (xv ((((if_pos (by omega)).trans (if_neg (by omega))).trans (if_pos (by omega))).trans (if_neg (by omega)))) (((((if_pos (by omega)).trans (if_neg (by omega))).trans (if_pos (by omega))).trans (if_neg (by omega))).symm) rfl rfl rfl dX11_copy_105
            · have c_82 := of_decide_eq_true (xb_1.mp c_82)
              (try simp (disch := omega) only [nI_toInt, i32_add, i32_sub, i32_mul, i64_addl, i32_l, k32_0, k32_8, k64_0, k64_8] at c_82)
              refine xr_aload_n X 0 dX11_copy_85 rfl rfl ?_
              refine xr_get X fF_X11_12_10 heo rfl dX11_copy_86 ?_
              refine xr_iload_n X 3 dX11_copy_89 rfl rfl ?_
              refine xr_iload X 4 dX11_copy_90 rfl ?_
              refine xr_iload X 5 dX11_copy_92 rfl ?_
              refine xr_callV X ho rfl kw_253 kw_254 kw_255 cw_X6_reaches [.int b, .int j, .int n] (c_X6_reaches ho hsizes hsz hM) rfl rfl rfl rfl rfl rfl rfl dX11_copy_94 ?_
              refine xr_if_ne (tgt := 106) X dX11_copy_97 (by decide) (fun c_97 => ?_) (fun c_97 => ?_)
              · have c_97 := of_decide_eq_true (xb_1.mp c_97)
                (try simp (disch := omega) only [nI_toInt, i32_add, i32_sub, i32_mul, i64_addl, i32_l, k32_0, k32_8, k64_0, k64_8] at c_97)
                refine xr_aload_n X 0 dX11_copy_106 rfl rfl ?_
                refine xr_get X fF_X11_12_10 heo rfl dX11_copy_107 ?_
                refine xr_iload_n X 1 dX11_copy_110 rfl rfl ?_
                refine xr_iload_n X 2 dX11_copy_111 rfl rfl ?_
                refine xr_iload_n X 3 dX11_copy_112 rfl rfl ?_
                refine xr_iload X 4 dX11_copy_113 rfl ?_
                refine xr_iload X 5 dX11_copy_115 rfl ?_
                refine xr_callV X ho rfl kw_275 kw_276 kw_277 cw_X6_carry [.int a, .int i, .int b, .int j, .int n] (c_X6_carryU ho hsizes hout hin hsz hM (by omega) (by omega) (by omega) (by omega) (by omega)) rfl rfl rfl rfl rfl rfl rfl dX11_copy_117 ?_
                refine xr_aload_n X 0 dX11_copy_120 rfl rfl ?_
                refine xr_iload X 5 dX11_copy_121 rfl ?_
                refine xr_callV X (xu_at (by omega) heo) rfl kw_241 kw_243 kw_1 cw_X11_fine [.int n] (c_X11_fine (xu_at (by omega) heo)) rfl rfl rfl rfl rfl rfl rfl dX11_copy_123 ?_
                exact xr_iret X rfl (xv ((((if_pos (by omega)).trans (if_neg (by omega))).trans (if_pos (by omega))).trans (if_pos (by omega)))) (((((if_pos (by omega)).trans (if_neg (by omega))).trans (if_pos (by omega))).trans (if_pos (by omega))).symm) rfl rfl rfl dX11_copy_126
              · have c_97 := of_decide_eq_false (xb_0.mp c_97)
                (try simp (disch := omega) only [nI_toInt, i32_add, i32_sub, i32_mul, i64_addl, i32_l, k32_0, k32_8, k64_0, k64_8] at c_97)
                refine xr_aload_n X 0 dX11_copy_100 rfl rfl ?_
                refine xr_iconst (v := 2) X dX11_copy_101 (by decide) ?_
                refine xr_callV X heo rfl kw_227 kw_229 kw_0 cw_X11_found [.int 2] (c_X11_found heo) rfl rfl rfl rfl rfl rfl rfl dX11_copy_102 ?_
                exact xr_iret X rfl (xv ((((if_pos (by omega)).trans (if_neg (by omega))).trans (if_pos (by omega))).trans (if_neg (by omega)))) (((((if_pos (by omega)).trans (if_neg (by omega))).trans (if_pos (by omega))).trans (if_neg (by omega))).symm) rfl rfl rfl dX11_copy_105
          · have c_62 := of_decide_eq_false (xb_0.mp c_62)
            (try simp (disch := omega) only [nI_toInt, i32_add, i32_sub, i32_mul, i64_addl, i32_l] at c_62)
            refine xr_aload_n X 0 dX11_copy_65 rfl rfl ?_
            refine xr_iconst (v := 5) X dX11_copy_66 (by decide) ?_
            refine xr_callV X heo rfl kw_227 kw_229 kw_0 cw_X11_found [.int 5] (c_X11_found heo) rfl rfl rfl rfl rfl rfl rfl dX11_copy_67 ?_
            exact xr_iret X rfl (xv (((if_pos (by omega)).trans (if_neg (by omega))).trans (if_neg (by omega)))) ((((if_pos (by omega)).trans (if_neg (by omega))).trans (if_neg (by omega))).symm) rfl rfl rfl dX11_copy_70
        · have c_44 := of_decide_eq_true (xb_1.mp c_44)
          (try simp (disch := omega) only [nI_toInt, i32_add, i32_sub, i32_mul, i64_addl, i32_l, k32_0, k32_8, k64_0, k64_8] at c_44)
          refine xr_aload_n X 0 dX11_copy_47 rfl rfl ?_
          refine xr_iconst (v := 1) X dX11_copy_48 (by decide) ?_
          refine xr_callV X heo rfl kw_227 kw_229 kw_0 cw_X11_found [.int 1] (c_X11_found heo) rfl rfl rfl rfl rfl rfl rfl dX11_copy_49 ?_
          exact xr_iret X rfl (xv ((if_pos (by omega)).trans (if_pos (by omega)))) (((if_pos (by omega)).trans (if_pos (by omega))).symm) rfl rfl rfl dX11_copy_52
    · have c_19 := of_decide_eq_false (xb_0.mp c_19)
      (try simp (disch := omega) only [nI_toInt, i32_add, i32_sub, i32_mul, i64_addl, i32_l, k32_0, k32_8, k64_0, k64_8] at c_19)
      refine xr_ldc (v := (-1000001)) X kw_226 dX11_copy_22 ?_
      exact xr_iret X rfl (xv (if_neg (by omega))) ((if_neg (by omega)).symm) rfl rfl rfl dX11_copy_24
set_option maxRecDepth 100000 in
theorem c_X11_drop {l : Launch} {Ω : xW} {h : xH} {sz : Nat} {e w : Nat} {ac st : Int32} {lane many sizes : Nat → Int32} {r : Int32} (heo : h e = some (eO e w ac st)) (ho : h (e + 1) = some (.inr (5, [.ref (e + 2), .ref (e + 11), .ref (e + 12)]))) (hsizes : h (e + 12) = some (.inl (.int, 8, .inl sizes))) (hsz : ∀ q, q < 8 → sizes q = if (lane q).toInt < 0 then -1 else many q) (hM : ∀ q, q < 8 → 0 ≤ (many q).toInt ∧ (many q).toInt ≤ 40) : xC l Ω yX11_drop cX11_drop 2 (some .int) 3 0 0 [.ref e, .int r] h sz (some (.int (a_drop lane many r))) (if 0 ≤ r.toInt ∧ r.toInt < 8 then (if (lane r.toNatClampNeg).toInt < 0 then (xu h e (.inr (10, [.ref (e + 1), .ref (e + 13), .ref w, .ref (e + 19), .ref (e + 20), .ref (e + 28), .ref (e + 30), .int (ac), .int (1)]))) else (xu (xu h (e + 12) (.inl (.int, 8, .inl (upd sizes r.toNatClampNeg (-1))))) e (.inr (10, [.ref (e + 1), .ref (e + 13), .ref w, .ref (e + 19), .ref (e + 20), .ref (e + 28), .ref (e + 30), .int (ac), .int (0)])))) else h) (sz) := by
  refine xC_of (lv := [(0, .ref e), (1, .int r)]) pn_X11 rfl rfl (fun Γ X hΓ hbs => ?_)
  have X : xX Γ Ω cX11_drop 2 RX11 "drop" (some .int) 3 105 0 0 := X
  subst hΓ
  refine xr_aload_n X 0 dX11_drop_0 rfl rfl ?_
  refine xr_get X fF_X11_12_10 heo rfl dX11_drop_1 ?_
  refine xr_iload_n X 1 dX11_drop_4 rfl rfl ?_
  refine xr_callV X ho rfl kw_218 kw_219 kw_220 cw_X6_isPlace [.int r] c_X6_isPlace rfl rfl rfl rfl rfl rfl rfl dX11_drop_5 ?_
  refine xr_if_ne (tgt := 14) X dX11_drop_8 (by decide) (fun c_8 => ?_) (fun c_8 => ?_)
  · have c_8 := of_decide_eq_true (xb_1.mp c_8)
    (try simp (disch := omega) only [nI_toInt, i32_add, i32_sub, i32_mul, i64_addl, i32_l, k32_0, k32_8, k64_0, k64_8] at c_8)
    refine xr_aload_n X 0 dX11_drop_14 rfl rfl ?_
    refine xr_get X fF_X11_12_10 heo rfl dX11_drop_15 ?_
    refine xr_iload_n X 1 dX11_drop_18 rfl rfl ?_
    refine xr_callV X ho rfl kw_249 kw_250 kw_251 cw_X6_isMissing [.int r] (c_X6_isMissing ho hsizes hsz hM) rfl rfl rfl rfl rfl rfl rfl dX11_drop_19 ?_
    refine xr_if_eq (tgt := 31) X dX11_drop_22 (by decide) (fun c_22 => ?_) (fun c_22 => ?_)
    · have c_22 := of_decide_eq_false (xb_0.mp c_22)
      (try simp (disch := omega) only [nI_toInt, i32_add, i32_sub, i32_mul, i64_addl, i32_l, k32_0, k32_8, k64_0, k64_8] at c_22)
      refine xr_aload_n X 0 dX11_drop_31 rfl rfl ?_
      refine xr_aload_n X 0 dX11_drop_32 rfl rfl ?_
      refine xr_get X fF_X11_12_10 heo rfl dX11_drop_33 ?_
      refine xr_iload_n X 1 dX11_drop_36 rfl rfl ?_
      refine xr_callV X ho rfl kw_286 kw_287 kw_288 cw_X6_take [.int r] (c_X6_take ho hsizes hsz hM (by omega) (by omega) (by omega)) rfl rfl rfl rfl rfl rfl rfl dX11_drop_37 ?_
      refine xr_callV X (xu_at (xn0 _ rfl) heo) rfl kw_241 kw_243 kw_1 cw_X11_fine [.int (many r.toNatClampNeg)] (c_X11_fine (xu_at (xn0 _ rfl) heo)) rfl rfl rfl rfl rfl rfl rfl dX11_drop_40 ?_
      exact xr_iret X rfl (xv ((if_pos (by omega)).trans (if_neg (by omega)))) (((if_pos (by omega)).trans (if_neg (by omega))).symm) rfl rfl rfl dX11_drop_43
    · have c_22 := of_decide_eq_true (xb_1.mp c_22)
      (try simp (disch := omega) only [nI_toInt, i32_add, i32_sub, i32_mul, i64_addl, i32_l, k32_0, k32_8, k64_0, k64_8] at c_22)
      refine xr_aload_n X 0 dX11_drop_25 rfl rfl ?_
      refine xr_iconst (v := 1) X dX11_drop_26 (by decide) ?_
      refine xr_callV X heo rfl kw_227 kw_229 kw_0 cw_X11_found [.int 1] (c_X11_found heo) rfl rfl rfl rfl rfl rfl rfl dX11_drop_27 ?_
      exact xr_iret X rfl (xv ((if_pos (by omega)).trans (if_pos (by omega)))) (((if_pos (by omega)).trans (if_pos (by omega))).symm) rfl rfl rfl dX11_drop_30
  · have c_8 := of_decide_eq_false (xb_0.mp c_8)
    (try simp (disch := omega) only [nI_toInt, i32_add, i32_sub, i32_mul, i64_addl, i32_l, k32_0, k32_8, k64_0, k64_8] at c_8)
    refine xr_ldc (v := (-1000001)) X kw_226 dX11_drop_11 ?_
    exact xr_iret X rfl (xv (if_neg (by omega))) ((if_neg (by omega)).symm) rfl rfl rfl dX11_drop_13
set_option maxRecDepth 100000 in
theorem c_X11_feed {l : Launch} {Ω : xW} {h : xH} {sz : Nat} {e w : Nat} {ac st : Int32} {pr fa tk fi be : Int32} {bt : Nat → Int32} {tn : Nat} {v : Int64} {n : Int32} (heo : h e = some (eO e w ac st)) (hko : h (e + 13) = some (kO e (nI tn) pr fa tk fi be)) (hbt : h (e + 14) = some (.inl (.byte, 300, .inl bt))) (htn : tn ≤ 300) : xC l Ω yX11_feed cX11_feed 4 (some .int) 1 0 0 [.ref e, .long v, .int n] h sz (some (.int (a_feed tn n))) (if 1 ≤ n.toInt ∧ n.toInt ≤ 8 then (if 300 < tn + n.toNatClampNeg then h else (xu (xu h (e + 14) (.inl (.byte, 300, .inl (va_cpy (fun q => sb (fb v (n.toNatClampNeg - 1 - q))) bt 0 tn n.toNatClampNeg)))) (e + 13) (.inr (6, [.ref (e + 14), .int (nI (tn + n.toNatClampNeg)), .ref (e + 15), .int (pr), .int (fa), .int (tk), .int (fi), .int (be)])))) else h) (sz) := by
  refine xC_of (lv := [(0, .ref e), (1, .long v), (3, .int n)]) pn_X11 rfl rfl (fun Γ X hΓ hbs => ?_)
  have X : xX Γ Ω cX11_feed 4 RX11 "feed" (some .int) 1 35 0 0 := X
  subst hΓ
  refine xr_iload_n X 2 dX11_feed_0 rfl rfl ?_
  refine xr_iconst (v := 1) X dX11_feed_1 (by decide) ?_
  refine xr_icmp_lt (tgt := 11) X dX11_feed_2 (by decide) (fun c_2 => ?_) (fun c_2 => ?_)
  · have c_2 := i32_lt.mp c_2
    (try simp (disch := omega) only [nI_toInt, i32_add, i32_sub, i32_mul, i64_addl, i32_l, k32_1, k64_1] at c_2)
    refine xr_ldc (v := (-1000001)) X kw_226 dX11_feed_11 ?_
    exact xr_iret X rfl (xv (if_neg (by omega))) ((if_neg (by omega)).symm) rfl rfl rfl dX11_feed_13
  · have c_2 := mt i32_lt.mpr c_2
    (try simp (disch := omega) only [nI_toInt, i32_add, i32_sub, i32_mul, i64_addl, i32_l, k32_1, k64_1] at c_2)
    refine xr_iload_n X 2 dX11_feed_5 rfl rfl ?_
    refine xr_bipush (v := 8) X dX11_feed_6 (by decide) ?_
    refine xr_icmp_le (tgt := 14) X dX11_feed_8 (by decide) (fun c_8 => ?_) (fun c_8 => ?_)
    · have c_8 := i32_le.mp c_8
      (try simp (disch := omega) only [nI_toInt, i32_add, i32_sub, i32_mul, i64_addl, i32_l, k32_8, k64_8] at c_8)
      have enn := (i32_tn (x := n) (by omega)).2
      refine xr_aload_n X 0 dX11_feed_14 rfl rfl ?_
      refine xr_get X fF_X11_19_10 heo rfl dX11_feed_15 ?_
      refine xr_iload_n X 2 dX11_feed_18 rfl rfl ?_
      refine xr_callV X hko rfl kw_294 kw_295 kw_296 cw_X7_hasRoom [.int n] (c_X7_hasRoom hko hbt htn) rfl rfl rfl rfl rfl rfl rfl dX11_feed_19 ?_
      refine xr_if_eq (tgt := 37) X dX11_feed_22 (by decide) (fun c_22 => ?_) (fun c_22 => ?_)
      · have c_22 := of_decide_eq_false (xb_0.mp c_22)
        (try simp (disch := omega) only [nI_toInt, i32_add, i32_sub, i32_mul, i64_addl, i32_l, k32_300] at c_22)
        refine xr_ldc (v := (-1000003)) X kw_302 dX11_feed_37 ?_
        exact xr_iret X rfl (xv ((if_pos (by omega)).trans (if_pos (by omega)))) (((if_pos (by omega)).trans (if_pos (by omega))).symm) rfl rfl rfl dX11_feed_39
      · have c_22 := of_decide_eq_true (xb_1.mp c_22)
        (try simp (disch := omega) only [nI_toInt, i32_add, i32_sub, i32_mul, i64_addl, i32_l, k32_300] at c_22)
        refine xr_aload_n X 0 dX11_feed_25 rfl rfl ?_
        refine xr_get X fF_X11_19_10 heo rfl dX11_feed_26 ?_
        refine xr_lload_n X 1 dX11_feed_29 rfl rfl ?_
        refine xr_iload_n X 2 dX11_feed_30 rfl rfl ?_
        refine xr_callV X hko rfl kw_298 kw_299 kw_300 cw_X7_append [.long v, .int n] (c_X7_append hko hbt (by omega) (by omega)) rfl rfl rfl rfl rfl rfl rfl dX11_feed_31 ?_
        refine xr_goto (tgt := 39) X dX11_feed_34 (by decide) ?_
        exact xr_iret X rfl (xv ((if_pos (by omega)).trans (if_neg (by omega)))) (((if_pos (by omega)).trans (if_neg (by omega))).symm) rfl rfl rfl dX11_feed_39
    · have c_8 := mt i32_le.mpr c_8
      (try simp (disch := omega) only [nI_toInt, i32_add, i32_sub, i32_mul, i64_addl, i32_l, k32_8, k64_8] at c_8)
      refine xr_ldc (v := (-1000001)) X kw_226 dX11_feed_11 ?_
      exact xr_iret X rfl (xv (if_neg (by omega))) ((if_neg (by omega)).symm) rfl rfl rfl dX11_feed_13
set_option maxRecDepth 100000 in
theorem c_X11_fault {l : Launch} {Ω : xW} {h : xH} {sz : Nat} {e w : Nat} {ac st : Int32} {le pr fa tk fi be : Int32} (heo : h e = some (eO e w ac st)) (hko : h (e + 13) = some (kO e le pr fa tk fi be)) : xC l Ω yX11_fault cX11_fault 1 (some .int) 1 0 0 [.ref e] h sz (some (.int fa)) h (sz) := by
  refine xC_of (lv := [(0, .ref e)]) pn_X11 rfl rfl (fun Γ X hΓ hbs => ?_)
  have X : xX Γ Ω cX11_fault 1 RX11 "fault" (some .int) 1 35 0 0 := X
  subst hΓ
  refine xr_aload_n X 0 dX11_fault_0 rfl rfl ?_
  refine xr_get X fF_X11_19_10 heo rfl dX11_fault_1 ?_
  refine xr_callV X hko rfl kw_551 kw_552 kw_553 cw_X7_latestFault [] (c_X7_latestFault hko) rfl rfl rfl rfl rfl rfl rfl dX11_fault_4 ?_
  exact xr_iret X rfl rfl rfl rfl rfl rfl dX11_fault_7
set_option maxRecDepth 100000 in
theorem c_X11_status {l : Launch} {Ω : xW} {h : xH} {sz : Nat} {e w : Nat} {ac st : Int32} (heo : h e = some (eO e w ac st)) : xC l Ω yX11_status cX11_status 1 (some .int) 0 0 0 [.ref e] h sz (some (.int st)) h (sz) := by
  refine xC_of (lv := [(0, .ref e)]) pn_X11 rfl rfl (fun Γ X hΓ hbs => ?_)
  have X : xX Γ Ω cX11_status 1 RX11 "status" (some .int) 0 0 0 0 := X
  subst hΓ
  refine xr_aload_n X 0 dX11_status_0 rfl rfl ?_
  refine xr_get X fF_X11_56_10 heo rfl dX11_status_1 ?_
  exact xr_iret X rfl rfl rfl rfl rfl rfl dX11_status_4
set_option maxRecDepth 100000 in
theorem c_X11_trace {l : Launch} {Ω : xW} {h : xH} {sz : Nat} {e w : Nat} {ac st : Int32} {x : trS} {i : Int32} (heo : h e = some (eO e w ac st)) (hto : h (e + 28) = some (.inr (8, [.ref (e + 29), .int (nI x.2)]))) (htl : h (e + 29) = some (.inl (.int, 16, .inl x.1))) (hx : x.2 ≤ 16) : xC l Ω yX11_trace cX11_trace 2 (some .int) 1 0 0 [.ref e, .int i] h sz (some (.int (if 0 ≤ i.toInt ∧ i.toInt < x.2 then x.1 i.toNatClampNeg else -1000000))) h (sz) := by
  refine xC_of (lv := [(0, .ref e), (1, .int i)]) pn_X11 rfl rfl (fun Γ X hΓ hbs => ?_)
  have X : xX Γ Ω cX11_trace 2 RX11 "trace" (some .int) 1 35 0 0 := X
  subst hΓ
  refine xr_aload_n X 0 dX11_trace_0 rfl rfl ?_
  refine xr_get X fF_X11_44_10 heo rfl dX11_trace_1 ?_
  refine xr_iload_n X 1 dX11_trace_4 rfl rfl ?_
  refine xr_callV X hto rfl kw_918 kw_919 kw_920 cw_X9_at [.int i] (c_X9_at hto htl hx) rfl rfl rfl rfl rfl rfl rfl dX11_trace_5 ?_
  exact xr_iret X rfl rfl rfl rfl rfl rfl dX11_trace_8
set_option maxRecDepth 100000 in
theorem c_X11_count {l : Launch} {Ω : xW} {h : xH} {sz : Nat} {e w : Nat} {ac st : Int32} {np : Nat} {d9 b9 m9 : Int32} {lane many sizes : Nat → Int32} {le pr fa tk fi be : Int32} {v : Int32} (heo : h e = some (eO e w ac st)) (hw : w = e + 16) (ho : h (e + 1) = some (.inr (5, [.ref (e + 2), .ref (e + 11), .ref (e + 12)]))) (hsizes : h (e + 12) = some (.inl (.int, 8, .inl sizes))) (hsz : ∀ q, q < 8 → sizes q = if (lane q).toInt < 0 then -1 else many q) (hM : ∀ q, q < 8 → 0 ≤ (many q).toInt ∧ (many q).toInt ≤ 40) (hto : h w = some (tO w (nI np) d9 b9 m9)) (hko : h (e + 13) = some (kO e le pr fa tk fi be)) : xC l Ω yX11_count cX11_count 2 (some .int) 3 0 0 [.ref e, .int v] h sz (some (.int (if v.toInt = 0 then nI (rowsN lane 8) else if v.toInt = 1 then nI np else if v.toInt = 2 then d9 else if v.toInt = 3 then b9 else if v.toInt = 4 then ac else if v.toInt = 5 then le else -1000001))) h (sz) := by
  refine xC_of (lv := [(0, .ref e), (1, .int v)]) pn_X11 rfl rfl (fun Γ X hΓ hbs => ?_)
  have X : xX Γ Ω cX11_count 2 RX11 "count" (some .int) 3 105 0 0 := X
  subst hΓ
  refine xr_iload_n X 1 dX11_count_0 rfl rfl ?_
  have hcase : v.toInt = 0 ∨ v.toInt = 1 ∨ v.toInt = 2 ∨ v.toInt = 3 ∨ v.toInt = 4 ∨ v.toInt = 5 ∨ (v.toInt < 0 ∨ 5 < v.toInt) := by omega
  rcases hcase with ew | ew | ew | ew | ew | ew | ew
  · refine xr_tableIn (off := 39) (tgt := 40) X dX11_count_1 (by omega) (by omega) (by rw [ew]; rfl) (by decide) ?_
    refine xr_aload_n X 0 dX11_count_40 rfl rfl ?_
    refine xr_get X fF_X11_12_10 heo rfl dX11_count_41 ?_
    refine xr_callV X ho rfl kw_927 kw_928 kw_929 cw_X6_howMany [] (c_X6_howMany ho hsizes hsz hM) rfl rfl rfl rfl rfl rfl rfl dX11_count_44 ?_
    exact xr_iret X rfl (xv (if_pos (by omega))) rfl rfl rfl rfl dX11_count_47
  · refine xr_tableIn (off := 47) (tgt := 48) X dX11_count_1 (by omega) (by omega) (by rw [ew]; rfl) (by decide) ?_
    refine xr_aload_n X 0 dX11_count_48 rfl rfl ?_
    refine xr_get X fF_X11_26_10 heo rfl dX11_count_49 ?_
    refine xr_callV X hto rfl kw_543 kw_544 kw_545 cw_X8_size [] (c_X8_size hto) rfl rfl rfl rfl rfl rfl rfl dX11_count_52 ?_
    exact xr_iret X rfl (xv ((if_neg (by omega)).trans (if_pos (by omega)))) rfl rfl rfl rfl dX11_count_55
  · refine xr_tableIn (off := 55) (tgt := 56) X dX11_count_1 (by omega) (by omega) (by rw [ew]; rfl) (by decide) ?_
    refine xr_aload_n X 0 dX11_count_56 rfl rfl ?_
    refine xr_get X fF_X11_26_10 heo rfl dX11_count_57 ?_
    refine xr_callV X hto rfl kw_585 kw_586 kw_587 cw_X8_day [] (c_X8_day hto) rfl rfl rfl rfl rfl rfl rfl dX11_count_60 ?_
    exact xr_iret X rfl (xv (((if_neg (by omega)).trans (if_neg (by omega))).trans (if_pos (by omega)))) rfl rfl rfl rfl dX11_count_63
  · refine xr_tableIn (off := 63) (tgt := 64) X dX11_count_1 (by omega) (by omega) (by rw [ew]; rfl) (by decide) ?_
    refine xr_aload_n X 0 dX11_count_64 rfl rfl ?_
    refine xr_get X fF_X11_26_10 heo rfl dX11_count_65 ?_
    refine xr_callV X hto rfl kw_594 kw_595 kw_596 cw_X8_before [] (c_X8_before hto) rfl rfl rfl rfl rfl rfl rfl dX11_count_68 ?_
    exact xr_iret X rfl (xv ((((if_neg (by omega)).trans (if_neg (by omega))).trans (if_neg (by omega))).trans (if_pos (by omega)))) rfl rfl rfl rfl dX11_count_71
  · refine xr_tableIn (off := 71) (tgt := 72) X dX11_count_1 (by omega) (by omega) (by rw [ew]; rfl) (by decide) ?_
    refine xr_aload_n X 0 dX11_count_72 rfl rfl ?_
    refine xr_get X fF_X11_52_10 heo rfl dX11_count_73 ?_
    exact xr_iret X rfl (xv (((((if_neg (by omega)).trans (if_neg (by omega))).trans (if_neg (by omega))).trans (if_neg (by omega))).trans (if_pos (by omega)))) rfl rfl rfl rfl dX11_count_76
  · refine xr_tableIn (off := 76) (tgt := 77) X dX11_count_1 (by omega) (by omega) (by rw [ew]; rfl) (by decide) ?_
    refine xr_aload_n X 0 dX11_count_77 rfl rfl ?_
    refine xr_get X fF_X11_19_10 heo rfl dX11_count_78 ?_
    refine xr_callV X hko rfl kw_931 kw_932 kw_933 cw_X7_size [] (c_X7_size hko) rfl rfl rfl rfl rfl rfl rfl dX11_count_81 ?_
    exact xr_iret X rfl (xv ((((((if_neg (by omega)).trans (if_neg (by omega))).trans (if_neg (by omega))).trans (if_neg (by omega))).trans (if_neg (by omega))).trans (if_pos (by omega)))) rfl rfl rfl rfl dX11_count_84
  · refine xr_tableOut (tgt := 85) X dX11_count_1 (by omega) (by decide) ?_
    refine xr_ldc (v := (-1000001)) X kw_226 dX11_count_85 ?_
    exact xr_iret X rfl (xv ((((((if_neg (by omega)).trans (if_neg (by omega))).trans (if_neg (by omega))).trans (if_neg (by omega))).trans (if_neg (by omega))).trans (if_neg (by omega)))) rfl rfl rfl rfl dX11_count_87
