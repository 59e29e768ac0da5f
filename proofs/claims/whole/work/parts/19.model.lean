set_option maxRecDepth 100000 in
theorem l_X12_posts {Γ : xΓ} {Ω : xW} {h : xH} {sz : Nat} (X : xX Γ Ω cX12_posts 7 RX12 "posts" (some .int) 4 140 0 0) {m : Nat} {st tp la le cu tk sa ti fa fl tr : Int32} {a : Nat} {t : Nat → Int32} {np day b : Nat} {kd wh mn : Nat → Nat} {was : Nat → Int32} {lane many item : Nat → Int32} {r i n : Int32} (hm : h m = some (mO m st (nI a) tp la le cu tk sa ti fa fl tr)) (ht : h (m + 4) = some (.inl (.int, 21, .inl t))) (T : tOK t np kd wh mn day b) (hwas : h (m + 6) = some (.inl (.int, 504, .inl was))) (hlane : h (m + 1) = some (.inl (.int, 8, .inl lane))) (hmany : h (m + 2) = some (.inl (.int, 8, .inl many))) (hitem : h (m + 3) = some (.inl (.int, 320, .inl item))) (ha : a ≤ 24) (hM : ∀ q, q < 8 → (many q).toInt ≤ 40) (ef9 : (40 * r + i).toInt = ((40 * r.toNatClampNeg + i.toNatClampNeg) : Nat)) (en9 : n.toInt = (n.toNatClampNeg : Nat)) (hF : (40 * r.toNatClampNeg + i.toNatClampNeg) + n.toNatClampNeg ≤ 320) (hA : allB (setP item (40 * r.toNatClampNeg + i.toNatClampNeg) np) n.toNatClampNeg = true) (hD : day + n.toNatClampNeg ≤ 9999) : ∀ (j0 k : Nat), k + j0 = n.toNatClampNeg → (∀ q, q < k → brkP kd wh mn np b item (40 * r.toNatClampNeg + i.toNatClampNeg) q = false) → xG Γ Ω 7 (xQ Γ Ω (some (.int (nI (kst kd wh mn np b item (40 * r.toNatClampNeg + i.toNatClampNeg) n.toNatClampNeg)))) (xu (xu (xu h m (.inr (11, [.int 0, .int 0, .ref (m + 1), .ref (m + 2), .ref (m + 3), .ref (m + 4), .ref (m + 5), .ref (m + 6), .int (nI (psS (t, was, a) item (40 * r.toNatClampNeg + i.toNatClampNeg) (kst kd wh mn np b item (40 * r.toNatClampNeg + i.toNatClampNeg) n.toNatClampNeg)).2.2), .ref (m + 7), .int tp, .int la, .int le, .int cu, .int tk, .int sa, .int ti, .int fa, .int fl, .ref (m + 8), .ref (m + 9), .ref (m + 10), .ref (m + 11), .int tr]))) (m + 6) (.inl (.int, 504, .inl ((psS (t, was, a) item (40 * r.toNatClampNeg + i.toNatClampNeg) (kst kd wh mn np b item (40 * r.toNatClampNeg + i.toNatClampNeg) n.toNatClampNeg)).2.1)))) (m + 4) (.inl (.int, 21, .inl ((psS (t, was, a) item (40 * r.toNatClampNeg + i.toNatClampNeg) (kst kd wh mn np b item (40 * r.toNatClampNeg + i.toNatClampNeg) n.toNatClampNeg)).1)))) (sz) 0 0) 104 [(6, .int (nI k)), (5, .int (40 * r + i)), (4, .int (lackF lane many r i n)), (0, .ref m), (1, .int r), (2, .int i), (3, .int n)] ([]) (xu (xu (xu h m (.inr (11, [.int 0, .int 0, .ref (m + 1), .ref (m + 2), .ref (m + 3), .ref (m + 4), .ref (m + 5), .ref (m + 6), .int (nI (psS (t, was, a) item (40 * r.toNatClampNeg + i.toNatClampNeg) k).2.2), .ref (m + 7), .int tp, .int la, .int le, .int cu, .int tk, .int sa, .int ti, .int fa, .int fl, .ref (m + 8), .ref (m + 9), .ref (m + 10), .ref (m + 11), .int tr]))) (m + 6) (.inl (.int, 504, .inl ((psS (t, was, a) item (40 * r.toNatClampNeg + i.toNatClampNeg) k).2.1)))) (m + 4) (.inl (.int, 21, .inl ((psS (t, was, a) item (40 * r.toNatClampNeg + i.toNatClampNeg) k).1)))) sz 0 0 := by
  intro j0
  induction j0 with
  | zero =>
    intro k hk hinv
    have ek : k = n.toNatClampNeg := by omega
    have h6 := T.1
    have h64 := pw_le h6
    have hpp := Nat.two_pow_pos np
    have hb6 := T.2.2.2.2.2.1
    refine xr_iload X 0 dX12_posts_104 rfl ?_
    refine xr_iload_n X 6 dX12_posts_106 rfl rfl ?_
    refine xr_icmp_ge (tgt := 153) X dX12_posts_107 (by decide) (fun _ => ?_) (fun c_107 => absurd (by rw [i32_le, nI_toInt (by omega)]; omega) c_107)
    refine xr_iload X 0 dX12_posts_153 rfl ?_
    exact xr_iret X rfl (by rw [kst_all (by rw [← ek]; exact hinv), ek]) (by rw [kst_all (by rw [← ek]; exact hinv), ek]) rfl rfl rfl dX12_posts_155
  | succ j0 ih =>
    intro k hk hinv
    have lk : k < n.toNatClampNeg := by omega
    have h6 := T.1
    have h64 := pw_le h6
    have hpp := Nat.two_pow_pos np
    have hb6 := T.2.2.2.2.2.1
    have hlt := letN_ok hA (k := k) (by omega)
    have hbl := befN_lt (kd := kd) (wh := wh) (mn := mn) hb6 hA (k := k) (by omega)
    have T := psS_T (x := (t, was, a)) T hA hD (k := k) (by omega)
    refine xr_iload X 0 dX12_posts_104 rfl ?_
    refine xr_iload_n X 6 dX12_posts_106 rfl rfl ?_
    refine xr_icmp_ge (tgt := 153) X dX12_posts_107 (by decide) (fun c_107 => absurd c_107 (by rw [i32_le, nI_toInt (by omega)]; omega)) (fun _ => ?_)
    refine xr_aload_n X 3 dX12_posts_110 rfl rfl ?_
    refine xr_aload_n X 3 dX12_posts_111 rfl rfl ?_
    refine xr_get X fF_X12_16_11 (xu_at (xn0 _ rfl) (xu_at (xn0 _ rfl) (xu_s _ _ _))) rfl dX12_posts_112 ?_
    refine xr_iload X 1 dX12_posts_115 rfl ?_
    refine xr_iload X 0 dX12_posts_117 rfl ?_
    refine xr_iadd X dX12_posts_119 ?_
    refine xr_iald (j := ((40 * r.toNatClampNeg + i.toNatClampNeg) + k)) X (xu_at (xne _ rfl) (xu_at (xne _ rfl) (xu_at (xn1 _ rfl) hitem))) (xI_i (by rw [i32_add (by rw [nI_toInt (by omega)]; omega) (by rw [nI_toInt (by omega)]; omega), nI_toInt (by omega)]; omega) (by omega)) dX12_posts_120 ?_
    refine xr_top (y := (nI (letN item (40 * r.toNatClampNeg + i.toNatClampNeg) k))) hlt.1 ?_
    refine xr_aload_n X 3 dX12_posts_121 rfl rfl ?_
    refine xr_get X fF_X12_19_11 (xu_at (xn0 _ rfl) (xu_at (xn0 _ rfl) (xu_s _ _ _))) rfl dX12_posts_122 ?_
    refine xr_iconst (v := 2) X dX12_posts_125 (by decide) ?_
    refine xr_iald (j := 2) X (xu_s _ _ _) (xI_e (by decide) (by omega) (by omega)) dX12_posts_126 ?_
    refine xr_top (y := (nI (befN item (40 * r.toNatClampNeg + i.toNatClampNeg) b k))) T.2.2.2.2.1 ?_
    refine xr_callV X (xu_at (xn0 _ rfl) (xu_at (xn0 _ rfl) (xu_s _ _ _))) rfl kw_1134 kw_1136 kw_34 cw_X12_isAgreed [.int (nI (letN item (40 * r.toNatClampNeg + i.toNatClampNeg) k)), .int (nI (befN item (40 * r.toNatClampNeg + i.toNatClampNeg) b k))] (c_X12_isAgreed (l2 := (letN item (40 * r.toNatClampNeg + i.toNatClampNeg) k)) (b2 := (befN item (40 * r.toNatClampNeg + i.toNatClampNeg) b k)) (xu_at (xn0 _ rfl) (xu_at (xn0 _ rfl) (xu_s _ _ _))) (xu_s _ _ _) T (by omega) (by omega)) rfl rfl rfl rfl rfl rfl rfl dX12_posts_127 ?_
    refine xr_if_eq (tgt := 153) X dX12_posts_130 (by decide) (fun c_130 => ?_) (fun c_130 => ?_)
    · have c_130 := of_decide_eq_false (xb_0.mp c_130)
      (try simp (disch := omega) only [nI_toInt, i32_add, i32_sub, i32_mul, i64_addl, i32_l, k32_40, k64_40] at c_130)
      have c2 : brkP kd wh mn np b item (40 * r.toNatClampNeg + i.toNatClampNeg) k = true := by rw [brkP, agr, decide_eq_false c_130]; rfl
      refine xr_iload X 0 dX12_posts_153 rfl ?_
      exact xr_iret X rfl (by rw [kst_at c2 hinv (by omega)]) (by rw [kst_at c2 hinv (by omega)]) rfl rfl rfl dX12_posts_155
    · have c_130 := of_decide_eq_true (xb_1.mp c_130)
      (try simp (disch := omega) only [nI_toInt, i32_add, i32_sub, i32_mul, i64_addl, i32_l, k32_40, k64_40] at c_130)
      have c2 : brkP kd wh mn np b item (40 * r.toNatClampNeg + i.toNatClampNeg) k = false := by rw [brkP, agr, decide_eq_true c_130]; rfl
      refine xr_aload_n X 3 dX12_posts_133 rfl rfl ?_
      refine xr_aload_n X 3 dX12_posts_134 rfl rfl ?_
      refine xr_get X fF_X12_16_11 (xu_at (xn0 _ rfl) (xu_at (xn0 _ rfl) (xu_s _ _ _))) rfl dX12_posts_135 ?_
      refine xr_iload X 1 dX12_posts_138 rfl ?_
      refine xr_iload X 0 dX12_posts_140 rfl ?_
      refine xr_iadd X dX12_posts_142 ?_
      refine xr_iald (j := ((40 * r.toNatClampNeg + i.toNatClampNeg) + k)) X (xu_at (xne _ rfl) (xu_at (xne _ rfl) (xu_at (xn1 _ rfl) hitem))) (xI_i (by rw [i32_add (by rw [nI_toInt (by omega)]; omega) (by rw [nI_toInt (by omega)]; omega), nI_toInt (by omega)]; omega) (by omega)) dX12_posts_143 ?_
      refine xr_callV X (xu_at (xn0 _ rfl) (xu_at (xn0 _ rfl) (xu_s _ _ _))) rfl kw_1153 kw_1155 kw_38 cw_X12_goDay [.int (item ((40 * r.toNatClampNeg + i.toNatClampNeg) + k))] (c_X12_goDay (d2 := item ((40 * r.toNatClampNeg + i.toNatClampNeg) + k)) (xu_at (xn0 _ rfl) (xu_at (xn0 _ rfl) (xu_s _ _ _))) (xu_s _ _ _) (xu_at (xne _ rfl) (xu_s _ _ _)) (psS_le ha k)) rfl rfl rfl rfl rfl rfl rfl dX12_posts_144 ?_
      refine xr_heap (h' := (xu (xu (xu h m (.inr (11, [.int 0, .int 0, .ref (m + 1), .ref (m + 2), .ref (m + 3), .ref (m + 4), .ref (m + 5), .ref (m + 6), .int (nI (keepN (psS (t, was, a) item (40 * r.toNatClampNeg + i.toNatClampNeg) k).2.2)), .ref (m + 7), .int tp, .int la, .int le, .int cu, .int tk, .int sa, .int ti, .int fa, .int fl, .ref (m + 8), .ref (m + 9), .ref (m + 10), .ref (m + 11), .int tr]))) (m + 6) (.inl (.int, 504, .inl (keepW (psS (t, was, a) item (40 * r.toNatClampNeg + i.toNatClampNeg) k).1 (psS (t, was, a) item (40 * r.toNatClampNeg + i.toNatClampNeg) k).2.1 (psS (t, was, a) item (40 * r.toNatClampNeg + i.toNatClampNeg) k).2.2)))) (m + 4) (.inl (.int, 21, .inl (dayT (psS (t, was, a) item (40 * r.toNatClampNeg + i.toNatClampNeg) k).1 (item ((40 * r.toNatClampNeg + i.toNatClampNeg) + k))))))) ((congrArg (fun z => xu z (m + 4) _) ((congrArg (fun z => xu z m _) (xu_in (xne _ rfl) (xu_uu _ _ _ _))).trans (xu_in (xn1 _ rfl) (xu_in (xn1 _ rfl) (xu_uu _ _ _ _))))).trans (xu_uu _ _ _ _)) ?_
      refine xr_iinc (v := nI (k + 1)) (lv' := [(6, .int (nI (k + 1))), (5, .int (40 * r + i)), (4, .int (lackF lane many r i n)), (0, .ref m), (1, .int r), (2, .int i), (3, .int n)]) X 0 dX12_posts_147 rfl (nI_1 _) rfl rfl ?_
      refine xr_goto (tgt := 104) X dX12_posts_150 (by decide) ?_
      refine xr_heap (h' := (xu (xu (xu h m (.inr (11, [.int 0, .int 0, .ref (m + 1), .ref (m + 2), .ref (m + 3), .ref (m + 4), .ref (m + 5), .ref (m + 6), .int (nI (psS (t, was, a) item (40 * r.toNatClampNeg + i.toNatClampNeg) (k + 1)).2.2), .ref (m + 7), .int tp, .int la, .int le, .int cu, .int tk, .int sa, .int ti, .int fa, .int fl, .ref (m + 8), .ref (m + 9), .ref (m + 10), .ref (m + 11), .int tr]))) (m + 6) (.inl (.int, 504, .inl ((psS (t, was, a) item (40 * r.toNatClampNeg + i.toNatClampNeg) (k + 1)).2.1)))) (m + 4) (.inl (.int, 21, .inl ((psS (t, was, a) item (40 * r.toNatClampNeg + i.toNatClampNeg) (k + 1)).1))))) (rfl) ?_
      exact ih (k + 1) (by omega) (fun q hq => if e : q < k then hinv q e else by obtain rfl : q = k := (by omega); exact c2)
set_option maxRecDepth 100000 in
theorem c_X12_posts {l : Launch} {Ω : xW} {h : xH} {sz : Nat} {m : Nat} {st tp la le cu tk sa ti fa fl tr : Int32} {a : Nat} {t : Nat → Int32} {np day b : Nat} {kd wh mn : Nat → Nat} {was : Nat → Int32} {lane many item : Nat → Int32} {r i n : Int32} (hm : h m = some (mO m st (nI a) tp la le cu tk sa ti fa fl tr)) (ht : h (m + 4) = some (.inl (.int, 21, .inl t))) (T : tOK t np kd wh mn day b) (hwas : h (m + 6) = some (.inl (.int, 504, .inl was))) (hlane : h (m + 1) = some (.inl (.int, 8, .inl lane))) (hmany : h (m + 2) = some (.inl (.int, 8, .inl many))) (hitem : h (m + 3) = some (.inl (.int, 320, .inl item))) (ha : a ≤ 24) (hM : ∀ q, q < 8 → (many q).toInt ≤ 40) : xC l Ω yX12_posts cX12_posts 7 (some .int) 4 0 0 [.ref m, .int r, .int i, .int n] h sz (some (.int (a_posts kd wh mn np day b lane many item r i n))) (if 0 < np then (if (0 ≤ r.toInt ∧ r.toInt < 8) ∧ 1 ≤ n.toInt ∧ n.toInt ≤ 24 then (if (lackF lane many r i n).toInt ≤ 0 then (if allB (setP item (40 * r.toNatClampNeg + i.toNatClampNeg) np) n.toNatClampNeg = true then (if 9999 < day + n.toNatClampNeg then h else (xu (xu (xu h m (.inr (11, [.int 0, .int 0, .ref (m + 1), .ref (m + 2), .ref (m + 3), .ref (m + 4), .ref (m + 5), .ref (m + 6), .int (nI (psS (t, was, a) item (40 * r.toNatClampNeg + i.toNatClampNeg) (kst kd wh mn np b item (40 * r.toNatClampNeg + i.toNatClampNeg) n.toNatClampNeg)).2.2), .ref (m + 7), .int tp, .int la, .int le, .int cu, .int tk, .int sa, .int ti, .int fa, .int fl, .ref (m + 8), .ref (m + 9), .ref (m + 10), .ref (m + 11), .int tr]))) (m + 6) (.inl (.int, 504, .inl ((psS (t, was, a) item (40 * r.toNatClampNeg + i.toNatClampNeg) (kst kd wh mn np b item (40 * r.toNatClampNeg + i.toNatClampNeg) n.toNatClampNeg)).2.1)))) (m + 4) (.inl (.int, 21, .inl ((psS (t, was, a) item (40 * r.toNatClampNeg + i.toNatClampNeg) (kst kd wh mn np b item (40 * r.toNatClampNeg + i.toNatClampNeg) n.toNatClampNeg)).1))))) else h) else (xu h m (.inr (11, [.int 0, .int (lackF lane many r i n), .ref (m + 1), .ref (m + 2), .ref (m + 3), .ref (m + 4), .ref (m + 5), .ref (m + 6), .int (nI a), .ref (m + 7), .int tp, .int la, .int le, .int cu, .int tk, .int sa, .int ti, .int fa, .int fl, .ref (m + 8), .ref (m + 9), .ref (m + 10), .ref (m + 11), .int tr])))) else h) else h) (sz) := by
  refine xC_of (lv := [(0, .ref m), (1, .int r), (2, .int i), (3, .int n)]) pn_X12 rfl rfl (fun Γ X hΓ hbs => ?_)
  have X : xX Γ Ω cX12_posts 7 RX12 "posts" (some .int) 4 140 0 0 := X
  subst hΓ
  have h6 := T.1
  have h64 := pw_le h6
  have hpp := Nat.two_pow_pos np
  have hb6 := T.2.2.2.2.2.1
  have hdy := T.2.2.2.1
  have ed := T.2.2.1
  refine xr_aload_n X 0 dX12_posts_0 rfl rfl ?_
  refine xr_iconst (v := 0) X dX12_posts_1 (by decide) ?_
  refine xr_put (fs' := [.int 0, .int st, .ref (m + 1), .ref (m + 2), .ref (m + 3), .ref (m + 4), .ref (m + 5), .ref (m + 6), .int (nI a), .ref (m + 7), .int tp, .int la, .int le, .int cu, .int tk, .int sa, .int ti, .int fa, .int fl, .ref (m + 8), .ref (m + 9), .ref (m + 10), .ref (m + 11), .int tr]) X (fW_X12_44_11 _) hm rfl rfl rfl rfl dX12_posts_2 ?_
  refine xr_heap (h' := h) (xu_id hm) ?_
  refine xr_aload_n X 0 dX12_posts_5 rfl rfl ?_
  refine xr_callV X hm rfl kw_1121 kw_1123 kw_31 cw_X12_isThere [] (c_X12_isThere hm ht T) rfl rfl rfl rfl rfl rfl rfl dX12_posts_6 ?_
  refine xr_if_ne (tgt := 15) X dX12_posts_9 (by decide) (fun c_9 => ?_) (fun c_9 => ?_)
  · have c_9 := of_decide_eq_true (xb_1.mp c_9)
    (try simp (disch := omega) only [nI_toInt, i32_add, i32_sub, i32_mul, i64_addl, i32_l, k32_0, k64_0] at c_9)
    refine xr_iload_n X 1 dX12_posts_15 rfl rfl ?_
    refine xr_callS X kw_1023 kw_1024 cw_X12_isRow [.int r] c_X12_isRow rfl rfl rfl rfl rfl rfl rfl dX12_posts_16 ?_
    refine xr_if_eq (tgt := 34) X dX12_posts_19 (by decide) (fun c_19 => ?_) (fun c_19 => ?_)
    · have c_19 := of_decide_eq_false (xb_0.mp c_19)
      (try simp (disch := omega) only [nI_toInt, i32_add, i32_sub, i32_mul, i64_addl, i32_l, k32_0, k32_8, k64_0, k64_8] at c_19)
      refine xr_ldc (v := (-1000001)) X kw_1031 dX12_posts_34 ?_
      exact xr_iret X rfl (xv ((if_pos (show 0 < np by omega)).trans (if_neg (show ¬ ((0 ≤ r.toInt ∧ r.toInt < 8) ∧ 1 ≤ n.toInt ∧ n.toInt ≤ 24) by omega)))) (((if_pos (show 0 < np by omega)).trans (if_neg (show ¬ ((0 ≤ r.toInt ∧ r.toInt < 8) ∧ 1 ≤ n.toInt ∧ n.toInt ≤ 24) by omega))).symm) rfl rfl rfl dX12_posts_36
    · have c_19 := of_decide_eq_true (xb_1.mp c_19)
      (try simp (disch := omega) only [nI_toInt, i32_add, i32_sub, i32_mul, i64_addl, i32_l, k32_0, k32_8, k64_0, k64_8] at c_19)
      refine xr_iload_n X 3 dX12_posts_22 rfl rfl ?_
      refine xr_i2l X dX12_posts_23 ?_
      refine xr_lconst (v := 1) X dX12_posts_24 (by decide) ?_
      refine xr_ldc2 (v := 24) X kw_1165 dX12_posts_25 ?_
      refine xr_callS X kw_1027 kw_1028 cw_X12_in [.long n.toInt64, .long 1, .long 24] c_X12_in rfl rfl rfl rfl rfl rfl rfl dX12_posts_28 ?_
      refine xr_if_ne (tgt := 37) X dX12_posts_31 (by decide) (fun c_31 => ?_) (fun c_31 => ?_)
      · have c_31 := of_decide_eq_true (xb_1.mp c_31)
        (try simp (disch := omega) only [nI_toInt, i32_add, i32_sub, i32_mul, i64_addl, i32_l, k32_1, k32_24, k64_1, k64_24] at c_31)
        refine xr_aload_n X 0 dX12_posts_37 rfl rfl ?_
        refine xr_iload_n X 1 dX12_posts_38 rfl rfl ?_
        refine xr_iload_n X 2 dX12_posts_39 rfl rfl ?_
        refine xr_iload_n X 3 dX12_posts_40 rfl rfl ?_
        refine xr_callV X hm rfl kw_1166 kw_1168 kw_40 cw_X12_lacks [.int r, .int i, .int n] (c_X12_lacks hm hlane hmany (by omega) (by omega)) rfl rfl rfl rfl rfl rfl rfl dX12_posts_41 ?_
        refine xr_istore (lv' := [(4, .int (lackF lane many r i n)), (0, .ref m), (1, .int r), (2, .int i), (3, .int n)]) X dX12_posts_44 rfl rfl ?_
        refine xr_iload X 0 dX12_posts_46 rfl ?_
        refine xr_if_le (tgt := 58) X dX12_posts_48 (by decide) (fun c_48 => ?_) (fun c_48 => ?_)
        · have c_48 := i32_le.mp c_48
          (try simp (disch := omega) only [nI_toInt, i32_add, i32_sub, i32_mul, i64_addl, i32_l, k32_0, k64_0] at c_48)
          have lk0 := lack0 c_48
          have hMr := hM r.toNatClampNeg (by have := (i32_tn (x := r) (by omega)).2; omega)
          have tnr := (i32_tn (x := r) (by omega)).2
          have tni := (i32_tn (x := i) (by omega)).2
          have en9 := ((i32_tn (x := n) (by omega)).2).symm
          have e40 := i32_m40 (x := r) (by omega) (by omega)
          have ef9 : (40 * r + i).toInt = ((40 * r.toNatClampNeg + i.toNatClampNeg) : Nat) := by rw [i32_add (by omega) (by omega), e40]; omega
          refine xr_bipush (v := 40) X dX12_posts_58 (by decide) ?_
          refine xr_iload_n X 2 dX12_posts_60 rfl rfl ?_
          refine xr_imul X dX12_posts_61 ?_
          refine xr_iload_n X 3 dX12_posts_62 rfl rfl ?_
          refine xr_iadd X dX12_posts_63 ?_
          refine xr_istore (lv' := [(5, .int ((40 * r) + i)), (4, .int (lackF lane many r i n)), (0, .ref m), (1, .int r), (2, .int i), (3, .int n)]) X dX12_posts_64 rfl rfl ?_
          refine xr_aload_n X 2 dX12_posts_66 rfl rfl ?_
          refine xr_iload X 0 dX12_posts_67 rfl ?_
          refine xr_iload_n X 5 dX12_posts_69 rfl rfl ?_
          refine xr_callV X hm rfl kw_1170 kw_1172 kw_41 cw_X12_areSets [.int ((40 * r) + i), .int n] (c_X12_areSets (F := 40 * r.toNatClampNeg + i.toNatClampNeg) (N := n.toNatClampNeg) hm ht T hitem ef9 en9 (by omega)) rfl rfl rfl rfl rfl rfl rfl dX12_posts_70 ?_
          refine xr_if_ne (tgt := 79) X dX12_posts_73 (by decide) (fun c_73 => ?_) (fun c_73 => ?_)
          · have c_73 := xb_1.mp c_73
            have edn : (nI day + n).toInt = (day : Int) + n.toInt := by rw [i32_add (by rw [nI_toInt (by omega)]; omega) (by rw [nI_toInt (by omega)]; omega), nI_toInt (by omega)]
            refine xr_aload_n X 2 dX12_posts_79 rfl rfl ?_
            refine xr_get X fF_X12_19_11 hm rfl dX12_posts_80 ?_
            refine xr_iconst (v := 1) X dX12_posts_83 (by decide) ?_
            refine xr_iald (j := 1) X ht (xI_e (by decide) (by omega) (by omega)) dX12_posts_84 ?_
            refine xr_top (y := (nI day)) T.2.2.1 ?_
            refine xr_iload_n X 5 dX12_posts_85 rfl rfl ?_
            refine xr_iadd X dX12_posts_86 ?_
            refine xr_sipush (v := 9999) X dX12_posts_87 (by decide) ?_
            refine xr_icmp_le (tgt := 96) X dX12_posts_90 (by decide) (fun c_90 => ?_) (fun c_90 => ?_)
            · have c_90 := i32_le.mp c_90
              (try simp (disch := omega) only [nI_toInt, i32_add, i32_sub, i32_mul, i64_addl, i32_l, k32_9999] at c_90)
              refine xr_aload_n X 2 dX12_posts_96 rfl rfl ?_
              refine xr_iconst (v := 0) X dX12_posts_97 (by decide) ?_
              refine xr_put (fs' := [.int 0, .int 0, .ref (m + 1), .ref (m + 2), .ref (m + 3), .ref (m + 4), .ref (m + 5), .ref (m + 6), .int (nI a), .ref (m + 7), .int tp, .int la, .int le, .int cu, .int tk, .int sa, .int ti, .int fa, .int fl, .ref (m + 8), .ref (m + 9), .ref (m + 10), .ref (m + 11), .int tr]) X (fW_X12_48_11 _) hm rfl rfl rfl rfl dX12_posts_98 ?_
              refine xr_iconst (v := 0) X dX12_posts_101 (by decide) ?_
              refine xr_istore (lv' := [(6, .int 0), (5, .int ((40 * r) + i)), (4, .int (lackF lane many r i n)), (0, .ref m), (1, .int r), (2, .int i), (3, .int n)]) X dX12_posts_102 rfl rfl ?_
              rw [show a_posts kd wh mn np day b lane many item r i n = _ from (((((if_pos (show 0 < np by omega)).trans (if_pos (show (0 ≤ r.toInt ∧ r.toInt < 8) ∧ 1 ≤ n.toInt ∧ n.toInt ≤ 24 by omega))).trans (if_pos (show (lackF lane many r i n).toInt ≤ 0 by omega))).trans (if_pos (show allB (setP item (40 * r.toNatClampNeg + i.toNatClampNeg) np) n.toNatClampNeg = true by exact c_73))).trans (if_neg (show ¬ (9999 < day + n.toNatClampNeg) by omega))), if_pos (show 0 < np by omega), if_pos (show (0 ≤ r.toInt ∧ r.toInt < 8) ∧ 1 ≤ n.toInt ∧ n.toInt ≤ 24 by omega), if_pos (show (lackF lane many r i n).toInt ≤ 0 by omega), if_pos c_73, if_neg (show ¬ 9999 < day + n.toNatClampNeg by omega)]
              refine xr_heap (h' := (xu (xu (xu h m (.inr (11, [.int 0, .int 0, .ref (m + 1), .ref (m + 2), .ref (m + 3), .ref (m + 4), .ref (m + 5), .ref (m + 6), .int (nI (psS (t, was, a) item (40 * r.toNatClampNeg + i.toNatClampNeg) 0).2.2), .ref (m + 7), .int tp, .int la, .int le, .int cu, .int tk, .int sa, .int ti, .int fa, .int fl, .ref (m + 8), .ref (m + 9), .ref (m + 10), .ref (m + 11), .int tr]))) (m + 6) (.inl (.int, 504, .inl ((psS (t, was, a) item (40 * r.toNatClampNeg + i.toNatClampNeg) 0).2.1)))) (m + 4) (.inl (.int, 21, .inl ((psS (t, was, a) item (40 * r.toNatClampNeg + i.toNatClampNeg) 0).1))))) (by rw [psS]; exact (xu_id (xu_at (xn1 _ rfl) ht)).symm.trans (congrArg (fun z => xu z (m + 4) _) (xu_id (xu_at (xn1 _ rfl) hwas)).symm)) ?_
              exact l_X12_posts X hm ht T hwas hlane hmany hitem ha hM ef9 en9 (by omega) c_73 (by omega) n.toNatClampNeg 0 (by omega) (fun q hq => absurd hq (by omega))
            · have c_90 := mt i32_le.mpr c_90
              (try simp (disch := omega) only [nI_toInt, i32_add, i32_sub, i32_mul, i64_addl, i32_l, k32_9999] at c_90)
              refine xr_ldc (v := (-1000003)) X kw_1054 dX12_posts_93 ?_
              exact xr_iret X rfl (xv (((((if_pos (show 0 < np by omega)).trans (if_pos (show (0 ≤ r.toInt ∧ r.toInt < 8) ∧ 1 ≤ n.toInt ∧ n.toInt ≤ 24 by omega))).trans (if_pos (show (lackF lane many r i n).toInt ≤ 0 by omega))).trans (if_pos (show allB (setP item (40 * r.toNatClampNeg + i.toNatClampNeg) np) n.toNatClampNeg = true by exact c_73))).trans (if_pos (show 9999 < day + n.toNatClampNeg by omega)))) ((((((if_pos (show 0 < np by omega)).trans (if_pos (show (0 ≤ r.toInt ∧ r.toInt < 8) ∧ 1 ≤ n.toInt ∧ n.toInt ≤ 24 by omega))).trans (if_pos (show (lackF lane many r i n).toInt ≤ 0 by omega))).trans (if_pos (show allB (setP item (40 * r.toNatClampNeg + i.toNatClampNeg) np) n.toNatClampNeg = true by exact c_73))).trans (if_pos (show 9999 < day + n.toNatClampNeg by omega))).symm) rfl rfl rfl dX12_posts_95
          · have c_73 := xb_0.mp c_73
            refine xr_ldc (v := (-1000001)) X kw_1031 dX12_posts_76 ?_
            exact xr_iret X rfl (xv ((((if_pos (show 0 < np by omega)).trans (if_pos (show (0 ≤ r.toInt ∧ r.toInt < 8) ∧ 1 ≤ n.toInt ∧ n.toInt ≤ 24 by omega))).trans (if_pos (show (lackF lane many r i n).toInt ≤ 0 by omega))).trans (if_neg (show ¬ (allB (setP item (40 * r.toNatClampNeg + i.toNatClampNeg) np) n.toNatClampNeg = true) by simp [c_73])))) (((((if_pos (show 0 < np by omega)).trans (if_pos (show (0 ≤ r.toInt ∧ r.toInt < 8) ∧ 1 ≤ n.toInt ∧ n.toInt ≤ 24 by omega))).trans (if_pos (show (lackF lane many r i n).toInt ≤ 0 by omega))).trans (if_neg (show ¬ (allB (setP item (40 * r.toNatClampNeg + i.toNatClampNeg) np) n.toNatClampNeg = true) by simp [c_73]))).symm) rfl rfl rfl dX12_posts_78
        · have c_48 := mt i32_le.mpr c_48
          (try simp (disch := omega) only [nI_toInt, i32_add, i32_sub, i32_mul, i64_addl, i32_l, k32_0, k64_0] at c_48)
          refine xr_aload_n X 1 dX12_posts_51 rfl rfl ?_
          refine xr_iload X 0 dX12_posts_52 rfl ?_
          refine xr_callV X hm rfl kw_1032 kw_1034 kw_21 cw_X12_finding [.int (lackF lane many r i n)] (c_X12_finding hm) rfl rfl rfl rfl rfl rfl rfl dX12_posts_54 ?_
          exact xr_iret X rfl (xv (((if_pos (show 0 < np by omega)).trans (if_pos (show (0 ≤ r.toInt ∧ r.toInt < 8) ∧ 1 ≤ n.toInt ∧ n.toInt ≤ 24 by omega))).trans (if_neg (show ¬ ((lackF lane many r i n).toInt ≤ 0) by omega)))) ((((if_pos (show 0 < np by omega)).trans (if_pos (show (0 ≤ r.toInt ∧ r.toInt < 8) ∧ 1 ≤ n.toInt ∧ n.toInt ≤ 24 by omega))).trans (if_neg (show ¬ ((lackF lane many r i n).toInt ≤ 0) by omega))).symm) rfl rfl rfl dX12_posts_57
      · have c_31 := of_decide_eq_false (xb_0.mp c_31)
        (try simp (disch := omega) only [nI_toInt, i32_add, i32_sub, i32_mul, i64_addl, i32_l, k32_1, k32_24, k64_1, k64_24] at c_31)
        refine xr_ldc (v := (-1000001)) X kw_1031 dX12_posts_34 ?_
        exact xr_iret X rfl (xv ((if_pos (show 0 < np by omega)).trans (if_neg (show ¬ ((0 ≤ r.toInt ∧ r.toInt < 8) ∧ 1 ≤ n.toInt ∧ n.toInt ≤ 24) by omega)))) (((if_pos (show 0 < np by omega)).trans (if_neg (show ¬ ((0 ≤ r.toInt ∧ r.toInt < 8) ∧ 1 ≤ n.toInt ∧ n.toInt ≤ 24) by omega))).symm) rfl rfl rfl dX12_posts_36
  · have c_9 := of_decide_eq_false (xb_0.mp c_9)
    (try simp (disch := omega) only [nI_toInt, i32_add, i32_sub, i32_mul, i64_addl, i32_l, k32_0, k64_0] at c_9)
    refine xr_ldc (v := (-1000002)) X kw_1125 dX12_posts_12 ?_
    exact xr_iret X rfl (xv (if_neg (show ¬ (0 < np) by omega))) ((if_neg (show ¬ (0 < np) by omega)).symm) rfl rfl rfl dX12_posts_14
set_option maxRecDepth 100000 in
theorem c_X12_status {l : Launch} {Ω : xW} {h : xH} {sz : Nat} {m : Nat} {st ac tp la le cu tk sa ti fa fl tr : Int32} (hm : h m = some (mO m st ac tp la le cu tk sa ti fa fl tr)) : xC l Ω yX12_status cX12_status 1 (some .int) 0 0 0 [.ref m] h sz (some (.int st)) h (sz) := by
  refine xC_of (lv := [(0, .ref m)]) pn_X12 rfl rfl (fun Γ X hΓ hbs => ?_)
  have X : xX Γ Ω cX12_status 1 RX12 "status" (some .int) 0 0 0 0 := X
  subst hΓ
  refine xr_aload_n X 0 dX12_status_0 rfl rfl ?_
  refine xr_iconst (v := 0) X dX12_status_1 (by decide) ?_
  refine xr_put (fs' := [.int 0, .int st, .ref (m + 1), .ref (m + 2), .ref (m + 3), .ref (m + 4), .ref (m + 5), .ref (m + 6), .int ac, .ref (m + 7), .int tp, .int la, .int le, .int cu, .int tk, .int sa, .int ti, .int fa, .int fl, .ref (m + 8), .ref (m + 9), .ref (m + 10), .ref (m + 11), .int tr]) X (fW_X12_44_11 _) hm rfl rfl rfl rfl dX12_status_2 ?_
  refine xr_heap (h' := h) (xu_id hm) ?_
  refine xr_aload_n X 0 dX12_status_5 rfl rfl ?_
  refine xr_get X fF_X12_48_11 hm rfl dX12_status_6 ?_
  exact xr_iret X rfl rfl rfl rfl rfl rfl dX12_status_9
set_option maxRecDepth 100000 in
theorem c_X12_fault {l : Launch} {Ω : xW} {h : xH} {sz : Nat} {m : Nat} {st ac tp la le cu tk sa ti fa fl tr : Int32} (hm : h m = some (mO m st ac tp la le cu tk sa ti fa fl tr)) : xC l Ω yX12_fault cX12_fault 1 (some .int) 0 0 0 [.ref m] h sz (some (.int la)) h (sz) := by
  refine xC_of (lv := [(0, .ref m)]) pn_X12 rfl rfl (fun Γ X hΓ hbs => ?_)
  have X : xX Γ Ω cX12_fault 1 RX12 "fault" (some .int) 0 0 0 0 := X
  subst hΓ
  refine xr_aload_n X 0 dX12_fault_0 rfl rfl ?_
  refine xr_iconst (v := 0) X dX12_fault_1 (by decide) ?_
  refine xr_put (fs' := [.int 0, .int st, .ref (m + 1), .ref (m + 2), .ref (m + 3), .ref (m + 4), .ref (m + 5), .ref (m + 6), .int ac, .ref (m + 7), .int tp, .int la, .int le, .int cu, .int tk, .int sa, .int ti, .int fa, .int fl, .ref (m + 8), .ref (m + 9), .ref (m + 10), .ref (m + 11), .int tr]) X (fW_X12_44_11 _) hm rfl rfl rfl rfl dX12_fault_2 ?_
  refine xr_heap (h' := h) (xu_id hm) ?_
  refine xr_aload_n X 0 dX12_fault_5 rfl rfl ?_
  refine xr_get X fF_X12_153_11 hm rfl dX12_fault_6 ?_
  exact xr_iret X rfl rfl rfl rfl rfl rfl dX12_fault_9
set_option maxRecDepth 100000 in
theorem c_X12_kind {l : Launch} {Ω : xW} {h : xH} {sz : Nat} {m : Nat} {st ac tp la le cu tk sa ti fa fl tr : Int32} {t : Nat → Int32} {np day b : Nat} {kd wh mn : Nat → Nat} {p : Int32} (hm : h m = some (mO m st ac tp la le cu tk sa ti fa fl tr)) (ht : h (m + 4) = some (.inl (.int, 21, .inl t))) (T : tOK t np kd wh mn day b) : xC l Ω yX12_kind cX12_kind 2 (some .int) 2 0 0 [.ref m, .int p] h sz (some (.int (if 0 ≤ p.toInt ∧ p.toInt < np then nI (kd p.toNatClampNeg) else -1000001))) h (sz) := by
  refine xC_of (lv := [(0, .ref m), (1, .int p)]) pn_X12 rfl rfl (fun Γ X hΓ hbs => ?_)
  have X : xX Γ Ω cX12_kind 2 RX12 "kind" (some .int) 2 70 0 0 := X
  subst hΓ
  have h6 := T.1
  refine xr_aload_n X 0 dX12_kind_0 rfl rfl ?_
  refine xr_iconst (v := 0) X dX12_kind_1 (by decide) ?_
  refine xr_put (fs' := [.int 0, .int st, .ref (m + 1), .ref (m + 2), .ref (m + 3), .ref (m + 4), .ref (m + 5), .ref (m + 6), .int ac, .ref (m + 7), .int tp, .int la, .int le, .int cu, .int tk, .int sa, .int ti, .int fa, .int fl, .ref (m + 8), .ref (m + 9), .ref (m + 10), .ref (m + 11), .int tr]) X (fW_X12_44_11 _) hm rfl rfl rfl rfl dX12_kind_2 ?_
  refine xr_heap (h' := h) (xu_id hm) ?_
  refine xr_aload_n X 0 dX12_kind_5 rfl rfl ?_
  refine xr_iload_n X 1 dX12_kind_6 rfl rfl ?_
  refine xr_callV X hm rfl kw_1190 kw_1192 kw_42 cw_X12_isPerson [.int p] (c_X12_isPerson hm ht T) rfl rfl rfl rfl rfl rfl rfl dX12_kind_7 ?_
  refine xr_if_eq (tgt := 22) X dX12_kind_10 (by decide) (fun c_10 => ?_) (fun c_10 => ?_)
  · have c_10 := of_decide_eq_false (xb_0.mp c_10)
    (try simp (disch := omega) only [nI_toInt, i32_add, i32_sub, i32_mul, i64_addl, i32_l, k32_0, k64_0] at c_10)
    refine xr_ldc (v := (-1000001)) X kw_1031 dX12_kind_22 ?_
    exact xr_iret X rfl (xv (if_neg (by omega))) rfl rfl rfl rfl dX12_kind_24
  · have c_10 := of_decide_eq_true (xb_1.mp c_10)
    (try simp (disch := omega) only [nI_toInt, i32_add, i32_sub, i32_mul, i64_addl, i32_l, k32_0, k64_0] at c_10)
    have tn_p := (i32_tn (x := p) (by omega)).2
    refine xr_aload_n X 0 dX12_kind_13 rfl rfl ?_
    refine xr_iload_n X 1 dX12_kind_14 rfl rfl ?_
    refine xr_iconst (v := 0) X dX12_kind_15 (by decide) ?_
    refine xr_callV X hm rfl kw_1146 kw_1148 kw_37 cw_X12_of [.int p, .int 0] (c_X12_of (p := p.toNatClampNeg) (w := 0) hm ht (i32_tn (by omega)).2.symm (by decide) (by omega)) rfl rfl rfl rfl rfl rfl rfl dX12_kind_16 ?_
    refine xr_top (y := nI (kd p.toNatClampNeg)) (by rw [show 3 + 3 * p.toNatClampNeg + 0 = 3 + 3 * p.toNatClampNeg by omega]; exact (T.2.2.2.2.2.2 p.toNatClampNeg (by omega)).1) ?_
    refine xr_goto (tgt := 24) X dX12_kind_19 (by decide) ?_
    exact xr_iret X rfl (xv (if_pos (by omega))) rfl rfl rfl rfl dX12_kind_24
def a_person (wh mn : Nat → Nat) (np b : Nat) (p w : Int32) : Int32 := if (0 ≤ p.toInt ∧ p.toInt < np) ∧ 0 ≤ w.toInt ∧ w.toInt ≤ 2 then (if w.toInt = 2 then xb (b.testBit p.toNatClampNeg) else if w.toInt = 0 then nI (wh p.toNatClampNeg) else nI (mn p.toNatClampNeg)) else -1000001
set_option maxRecDepth 100000 in
theorem c_X12_person {l : Launch} {Ω : xW} {h : xH} {sz : Nat} {m : Nat} {st ac tp la le cu tk sa ti fa fl tr : Int32} {t : Nat → Int32} {np day b : Nat} {kd wh mn : Nat → Nat} {p w : Int32} (hm : h m = some (mO m st ac tp la le cu tk sa ti fa fl tr)) (ht : h (m + 4) = some (.inl (.int, 21, .inl t))) (T : tOK t np kd wh mn day b) : xC l Ω yX12_person cX12_person 3 (some .int) 2 0 0 [.ref m, .int p, .int w] h sz (some (.int (a_person wh mn np b p w))) h (sz) := by
  refine xC_of (lv := [(0, .ref m), (1, .int p), (2, .int w)]) pn_X12 rfl rfl (fun Γ X hΓ hbs => ?_)
  have X : xX Γ Ω cX12_person 3 RX12 "person" (some .int) 2 70 0 0 := X
  subst hΓ
  have h6 := T.1
  have h64 := pw_le h6
  have hpp := Nat.two_pow_pos np
  have hb6 := T.2.2.2.2.2.1
  refine xr_aload_n X 0 dX12_person_0 rfl rfl ?_
  refine xr_iconst (v := 0) X dX12_person_1 (by decide) ?_
  refine xr_put (fs' := [.int 0, .int st, .ref (m + 1), .ref (m + 2), .ref (m + 3), .ref (m + 4), .ref (m + 5), .ref (m + 6), .int ac, .ref (m + 7), .int tp, .int la, .int le, .int cu, .int tk, .int sa, .int ti, .int fa, .int fl, .ref (m + 8), .ref (m + 9), .ref (m + 10), .ref (m + 11), .int tr]) X (fW_X12_44_11 _) hm rfl rfl rfl rfl dX12_person_2 ?_
  refine xr_heap (h' := h) (xu_id hm) ?_
  refine xr_aload_n X 0 dX12_person_5 rfl rfl ?_
  refine xr_iload_n X 1 dX12_person_6 rfl rfl ?_
  refine xr_callV X hm rfl kw_1190 kw_1192 kw_42 cw_X12_isPerson [.int p] (c_X12_isPerson hm ht T) rfl rfl rfl rfl rfl rfl rfl dX12_person_7 ?_
  refine xr_if_eq (tgt := 25) X dX12_person_10 (by decide) (fun c_10 => ?_) (fun c_10 => ?_)
  · have c_10 := of_decide_eq_false (xb_0.mp c_10)
    (try simp (disch := omega) only [nI_toInt, i32_add, i32_sub, i32_mul, i64_addl, i32_l, k32_0, k64_0] at c_10)
    refine xr_ldc (v := (-1000001)) X kw_1031 dX12_person_25 ?_
    exact xr_iret X rfl (xv (if_neg (by omega))) rfl rfl rfl rfl dX12_person_27
  · have c_10 := of_decide_eq_true (xb_1.mp c_10)
    (try simp (disch := omega) only [nI_toInt, i32_add, i32_sub, i32_mul, i64_addl, i32_l, k32_0, k64_0] at c_10)
    refine xr_iload_n X 2 dX12_person_13 rfl rfl ?_
    refine xr_i2l X dX12_person_14 ?_
    refine xr_lconst (v := 0) X dX12_person_15 (by decide) ?_
    refine xr_ldc2 (v := 2) X kw_1030 dX12_person_16 ?_
    refine xr_callS X kw_1027 kw_1028 cw_X12_in [.long w.toInt64, .long 0, .long 2] c_X12_in rfl rfl rfl rfl rfl rfl rfl dX12_person_19 ?_
    refine xr_if_ne (tgt := 28) X dX12_person_22 (by decide) (fun c_22 => ?_) (fun c_22 => ?_)
    · have c_22 := of_decide_eq_true (xb_1.mp c_22)
      (try simp (disch := omega) only [nI_toInt, i32_add, i32_sub, i32_mul, i64_addl, i32_l, k32_0, k32_2, k64_0, k64_2] at c_22)
      have tn_p := (i32_tn (x := p) (by omega)).2
      have tn_w := (i32_tn (x := w) (by omega)).2
      have hT := T.2.2.2.2.2.2 p.toNatClampNeg (by omega)
      refine xr_iload_n X 2 dX12_person_28 rfl rfl ?_
      refine xr_iconst (v := 2) X dX12_person_29 (by decide) ?_
      refine xr_icmp_ne (tgt := 46) X dX12_person_30 (by decide) (fun c_30 => ?_) (fun c_30 => ?_)
      · have c_30 := mt i32_eq.mpr c_30
        (try simp (disch := omega) only [nI_toInt, i32_add, i32_sub, i32_mul, i64_addl, i32_l, k32_2, k64_2] at c_30)
        refine xr_aload_n X 0 dX12_person_46 rfl rfl ?_
        refine xr_iload_n X 1 dX12_person_47 rfl rfl ?_
        refine xr_iconst (v := 1) X dX12_person_48 (by decide) ?_
        refine xr_iload_n X 2 dX12_person_49 rfl rfl ?_
        refine xr_iadd X dX12_person_50 ?_
        refine xr_callV X hm rfl kw_1146 kw_1148 kw_37 cw_X12_of [.int p, .int (1 + w)] (c_X12_of (p := p.toNatClampNeg) (w := 1 + w.toNatClampNeg) hm ht (i32_tn (by omega)).2.symm (by rw [i32_add (by rw [k32_1]; omega) (by rw [k32_1]; omega), k32_1]; omega) (by omega)) rfl rfl rfl rfl rfl rfl rfl dX12_person_51 ?_
        exact xr_iret X rfl (xv (((if_pos (by omega)).trans (if_neg (by omega))).trans (if e : w.toInt = 0 then (if_pos e).trans (by rw [show w.toNatClampNeg = 0 by omega, show 3 + 3 * p.toNatClampNeg + (1 + 0) = 4 + 3 * p.toNatClampNeg by omega]; exact hT.2.1.symm) else (if_neg e).trans (by rw [show w.toNatClampNeg = 1 by omega, show 3 + 3 * p.toNatClampNeg + (1 + 1) = 5 + 3 * p.toNatClampNeg by omega]; exact hT.2.2.1.symm)))) rfl rfl rfl rfl dX12_person_54
      · have c_30 := i32_eq.mp c_30
        (try simp (disch := omega) only [nI_toInt, i32_add, i32_sub, i32_mul, i64_addl, i32_l, k32_2, k64_2] at c_30)
        refine xr_aload_n X 0 dX12_person_33 rfl rfl ?_
        refine xr_get X fF_X12_19_11 hm rfl dX12_person_34 ?_
        refine xr_iconst (v := 2) X dX12_person_37 (by decide) ?_
        refine xr_iald (j := 2) X ht (xI_e (by decide) (by omega) (by omega)) dX12_person_38 ?_
        refine xr_top (y := (nI b)) T.2.2.2.2.1 ?_
        refine xr_iload_n X 1 dX12_person_39 rfl rfl ?_
        refine xr_top (y := (nI (p.toNatClampNeg))) ((i32_tn (by omega)).1) ?_
        refine xr_ishr X dX12_person_40 ?_
        refine xr_iconst (v := 1) X dX12_person_41 (by decide) ?_
        refine xr_iand X dX12_person_42 ?_
        refine xr_top (y := (xb (b.testBit p.toNatClampNeg))) (bt_n (by omega) (by omega)) ?_
        refine xr_goto (tgt := 54) X dX12_person_43 (by decide) ?_
        exact xr_iret X rfl (xv ((if_pos (by omega)).trans (if_pos (by omega)))) rfl rfl rfl rfl dX12_person_54
    · have c_22 := of_decide_eq_false (xb_0.mp c_22)
      (try simp (disch := omega) only [nI_toInt, i32_add, i32_sub, i32_mul, i64_addl, i32_l, k32_0, k32_2, k64_0, k64_2] at c_22)
      refine xr_ldc (v := (-1000001)) X kw_1031 dX12_person_25 ?_
      exact xr_iret X rfl (xv (if_neg (by omega))) rfl rfl rfl rfl dX12_person_27
